/** Promises 9, 10, 12 and 28: rights, owners, who may open, and quotas. */
public final class RightsTest {
    public static void main(String[] args) {
        Due due = new Due("RightsTest");
        rights(due);
        owners(due);
        opening(due);
        openingByRights(due);
        handlesAtMost(due);
        foldersByRights(due);
        quotas(due);
        quotasOfOwners(due);
        due.end();
    }

    private static void rights(Due due) {
        due.about("rights");
        Inodery x = new Inodery();
        x.file(1, 7);
        x.link(2, 1);
        due.is(7, () -> x.rights(1, 3));
        due.is(3, () -> x.rights(2, 15));
        due.is(15, () -> x.about(1, 2));
        due.is(15, () -> x.about(2, 2));
        due.is(15, () -> x.rights(0, 0));
        due.is(0, () -> x.rights(0, 15));
        due.fails(Due.ARGUMENT, () -> x.rights(-1, 3));
        due.fails(Due.ARGUMENT, () -> x.rights(100000000, 3));
        due.fails(Due.ARGUMENT, () -> x.rights(1, 16));
        due.fails(Due.ARGUMENT, () -> x.rights(9, -1));
        due.fails(Due.INDEX, () -> x.rights(9, 3));
        due.fails(Due.INDEX, () -> x.rights(100, 3));
        x.user(1);
        due.fails(Due.STATE, () -> x.rights(1, 3));
        due.fails(Due.STATE, () -> x.rights(0, 3));
        due.fails(Due.INDEX, () -> x.rights(9, 3));
        due.is(3, () -> x.file(3, 0));
        due.is(0, () -> x.rights(3, 5));
        due.is(5, () -> x.about(3, 2));
        x.user(2);
        due.fails(Due.STATE, () -> x.rights(3, 15));
        x.user(0);
        due.is(5, () -> x.rights(3, 1));
    }

    private static void owners(Due due) {
        due.about("own");
        Inodery x = new Inodery();
        x.file(1, 7);
        x.link(2, 1);
        due.is(0, () -> x.own(1, 3));
        due.is(3, () -> x.about(1, 1));
        due.is(3, () -> x.own(2, 1));
        due.is(1, () -> x.about(1, 1));
        due.is(0, () -> x.about(2, 1));
        due.is(0, () -> x.own(0, 2));
        due.is(2, () -> x.about(0, 1));
        due.fails(Due.ARGUMENT, () -> x.own(-1, 2));
        due.fails(Due.ARGUMENT, () -> x.own(100000000, 4));
        due.fails(Due.INDEX, () -> x.own(1, 4));
        due.fails(Due.INDEX, () -> x.own(1, -1));
        due.fails(Due.INDEX, () -> x.own(9, 1));
        x.user(1);
        due.fails(Due.STATE, () -> x.own(1, 1));
        due.fails(Due.INDEX, () -> x.own(1, 4));
        due.fails(Due.INDEX, () -> x.own(9, 1));
        due.is(1, () -> x.about(1, 1));
        x.user(2);
        due.is(15, () -> x.rights(0, 4));
        due.is(3, () -> x.file(3, 15));
        x.user(1);
        due.fails(Due.STATE, () -> x.file(4, 15));
    }

    private static void opening(Due due) {
        due.about("open");
        Inodery x = new Inodery();
        x.file(1, 0);
        x.folder(2, 15);
        x.link(3, 1);
        x.link(4, 9);
        x.link(5, 2);
        due.is(0, () -> x.open(1, true));
        due.is(1, () -> x.open(3, false));
        due.is(2, () -> x.about(1, 5));
        due.is(0, () -> x.about(3, 5));
        due.fails(Due.ARGUMENT, () -> x.open(-1, true));
        due.fails(Due.ARGUMENT, () -> x.open(100000000, true));
        due.fails(Due.INDEX, () -> x.open(9, true));
        due.fails(Due.INDEX, () -> x.open(4, false));
        due.fails(Due.INDEX, () -> x.open(200, false));
        due.fails(Due.STATE, () -> x.open(0, false));
        due.fails(Due.STATE, () -> x.open(2, false));
        due.fails(Due.STATE, () -> x.open(5, true));
        due.isFalse(x.close(0));
        due.is(2, () -> x.open(1, false));
        due.fails(Due.STATE, () -> x.close(0));
        due.fails(Due.INDEX, () -> x.close(3));
        due.fails(Due.INDEX, () -> x.close(-1));
        due.is(2, () -> x.about(1, 5));
    }

    private static void openingByRights(Due due) {
        due.about("open by rights");
        Inodery x = new Inodery();
        x.user(1);
        x.file(1, 0);
        for (int rights = 0; rights < 16; rights++) {
            x.rights(1, rights);
            boolean ownerReads = (rights & 8) != 0;
            boolean othersRead = (rights & 2) != 0;
            opens(due, x, false, ownerReads);
            opens(due, x, true, ownerReads && (rights & 4) != 0);
            x.user(3);
            opens(due, x, false, othersRead);
            opens(due, x, true, othersRead && (rights & 1) != 0);
            x.user(1);
        }
        Inodery y = new Inodery();
        y.file(1, 0);
        due.is(0, () -> y.open(1, true));
    }

    private static void opens(Due due, Inodery x, boolean isWriting, boolean isAllowed) {
        // Opened anew each time on a fresh count: a refused call gives no handle, so those that are given rise.
        if (!isAllowed) {
            due.fails(Due.STATE, () -> x.open(1, isWriting));
            return;
        }
        int before = x.about(1, 5);
        x.open(1, isWriting);
        due.is(before + 1, () -> x.about(1, 5));
    }

    private static void handlesAtMost(Due due) {
        due.about("30 handles");
        Inodery x = new Inodery();
        x.file(1, 15);
        for (int handle = 0; handle < 30; handle++) {
            int each = handle;
            due.is(each, () -> x.open(1, false));
            if (handle % 2 == 0) {
                x.close(handle);
            }
        }
        due.fails(Due.STATE, () -> x.open(1, false));
        due.is(15, () -> x.about(1, 5));
        due.isFalse(x.close(29));
        due.fails(Due.STATE, () -> x.open(1, false));
        due.fails(Due.INDEX, () -> x.open(2, false));
        due.fails(Due.INDEX, () -> x.close(30));
        x.commit();
        x.crash();
        due.fails(Due.STATE, () -> x.open(1, false));
        due.fails(Due.STATE, () -> x.close(1));
    }

    private static void foldersByRights(Due due) {
        due.about("folders by rights");
        Inodery x = new Inodery();
        x.folder(1, 4);
        x.own(1, 1);
        x.user(1);
        due.is(2, () -> x.file(101, 15));
        x.user(2);
        due.fails(Due.STATE, () -> x.file(102, 15));
        due.fails(Due.STATE, () -> x.remove(101));
        x.user(1);
        x.rights(1, 11);
        due.fails(Due.STATE, () -> x.file(102, 15));
        due.fails(Due.STATE, () -> x.remove(101));
        x.user(2);
        due.is(3, () -> x.file(102, 15));
        due.isTrue(x.remove(101));
        x.user(0);
        x.rights(1, 0);
        due.is(2, () -> x.file(101, 15));
    }

    private static void quotas(Due due) {
        due.about("quota");
        Inodery x = new Inodery();
        due.is(64, () -> x.quota(2, 0));
        due.is(0, () -> x.quota(2, 64));
        due.fails(Due.INDEX, () -> x.quota(4, 3));
        due.fails(Due.INDEX, () -> x.quota(-1, 65));
        due.fails(Due.ARGUMENT, () -> x.quota(2, -1));
        due.fails(Due.ARGUMENT, () -> x.quota(2, 65));
        due.is(64, () -> x.quota(2, 2));
        x.user(2);
        x.file(1, 15);
        x.open(1, true);
        due.is(16, () -> x.write(0, 0, 1));
        due.fails(Due.STATE, () -> x.ahead(0, 1, 2));
        due.is(1, () -> x.used(2));
        due.is(1, () -> x.ahead(0, 0, 1));
        due.fails(Due.STATE, () -> x.write(0, 2, 1));
        due.is(17, () -> x.write(0, 1, 1));
        due.is(0, () -> x.ahead(0, 0, 1));
        due.is(2, () -> x.quota(2, 0));
        due.is(2, () -> x.used(2));
        due.is(16, () -> x.write(0, 0, 2));
        due.is(0, () -> x.ahead(0, 0, 1));
        x.snapshot();
        due.is(18, () -> x.write(0, 0, 3));
        due.is(0, () -> x.quota(2, 3));
        due.is(19, () -> x.write(0, 2, 3));
        x.crash();
        due.is(3, () -> x.quota(2, 3));
    }

    private static void quotasOfOwners(Due due) {
        due.about("quota of the owner");
        Inodery x = new Inodery();
        x.file(1, 15);
        x.file(2, 15);
        x.open(1, true);
        x.open(2, true);
        x.quota(1, 1);
        x.user(1);
        due.is(2, () -> x.ahead(0, 0, 1));
        due.is(2, () -> x.used(0));
        due.is(0, () -> x.used(1));
        x.user(0);
        due.is(0, () -> x.own(1, 1));
        due.is(0, () -> x.used(0));
        due.is(2, () -> x.used(1));
        due.fails(Due.STATE, () -> x.write(0, 2, 1));
        due.is(16, () -> x.write(0, 0, 1));
        x.own(1, 0);
        x.own(2, 1);
        due.is(32, () -> x.write(1, 0, 1));
        due.fails(Due.STATE, () -> x.write(1, 1, 1));
        due.is(18, () -> x.write(0, 2, 1));
        due.fails(Due.INDEX, () -> x.used(4));
        due.fails(Due.INDEX, () -> x.used(-1));
    }
}

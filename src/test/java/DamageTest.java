/** Promises 30 and 31: damage, and the checker that mends it. */
public final class DamageTest {
    public static void main(String[] args) {
        Due due = new Due("DamageTest");
        counts(due);
        countsOfFolders(due);
        sharedPages(due);
        lostEntries(due);
        refused(due);
        pagesMended(due);
        thingsMended(due);
        allMended(due);
        checksAgain(due);
        notCommitted(due);
        due.end();
    }

    private static void counts(Due due) {
        due.about("damaged counts");
        Inodery x = new Inodery();
        x.file(1, 15);
        x.link(2, 1);
        x.damage(0, 1, 99);
        x.damage(0, 1, -5);
        x.damage(0, 2, 0);
        x.damage(0, 0, 0);
        due.is(3, () -> x.about(1, 3));
        due.is(2, () -> x.about(2, 3));
        due.is(1, () -> x.about(0, 3));
        due.is(4, () -> x.hard(1, 3));
        due.is(3, () -> x.check());
        due.is(2, () -> x.about(1, 3));
        due.is(1, () -> x.about(2, 3));
        due.is(0, () -> x.about(0, 3));
        due.is(0, () -> x.check());
        x.damage(0, 2, 0);
        due.isFalse(x.remove(2));
        due.is(1, () -> x.about(2, 3));
        due.is(100, () -> x.check());
        due.fails(Due.INDEX, () -> x.about(2, 0));

        due.about("a damaged count of an open file");
        Inodery y = Disks.withFiles(1);
        y.damage(0, 1, 0);
        due.isFalse(y.remove(1));
        due.isFalse(y.close(0));
        due.is(1, () -> y.about(1, 3));
        due.is(100, () -> y.check());
    }

    private static void countsOfFolders(Due due) {
        due.about("damaged counts of folders");
        Inodery x = new Inodery();
        x.folder(1, 15);
        x.folder(2, 15);
        x.folder(3, 15);
        x.damage(0, 1, 0);
        x.damage(0, 2, 0);
        due.is(2, () -> x.about(1, 3));
        due.isTrue(x.remove(1));
        due.fails(Due.INDEX, () -> x.about(1, 0));
        due.is(3, () -> x.rename(3, 2));
        due.fails(Due.INDEX, () -> x.about(2, 0));
        due.is(0, () -> x.check());
    }

    private static void sharedPages(Due due) {
        due.about("shared pages");
        Inodery x = Disks.withFiles(2);
        x.write(0, 0, 1);
        x.ahead(1, 0, 0);
        x.damage(1, 1, 2);
        due.is(32, () -> x.page(1, 0, 1));
        due.is(Inodery.WRITTEN, () -> x.page(1, 0, 0));
        due.is(0, () -> x.page(1, 0, 2));
        due.is(Inodery.AHEAD, () -> x.page(2, 0, 0));
        due.is(0, () -> x.dirty());
        due.isTrue(x.isFree(16));
        due.is(2, () -> x.used(0));
        due.is(32, () -> x.write(1, 0, 9));
        due.is(0, () -> x.read(0, 0));
        x.commit();
        due.is(9, () -> x.read(0, 0));
        due.is(33, () -> x.write(0, 1, 1));
        due.is(2, () -> x.cut(0, 0));
        due.isFalse(x.isFree(32));
        due.is(9, () -> x.read(1, 0));
        x.damage(1, 1, 2);
        x.write(1, 0, 7);
        x.damage(1, 1, 2);
        due.is(1, () -> x.dirty());
        due.is(7, () -> x.read(1, 0));
        x.snapshot();
        due.is(16, () -> x.write(0, 0, 3));
        due.is(32, () -> x.page(2, 0, 1));
        due.is(7, () -> x.readOld(0, 1, 0));
    }

    private static void lostEntries(Due due) {
        due.about("lost entries");
        Inodery x = new Inodery();
        x.folder(5, 15);
        x.file(503, 15);
        x.file(502, 15);
        x.file(1, 15);
        x.damage(2, 1, 0);
        due.is(3, () -> x.about(3, 0) + x.about(3, 3) + x.about(1, 4) + x.about(1, 3));
        due.fails(Due.INDEX, () -> x.look(502, true));
        due.is(203, () -> x.entry(1, 0));
        x.damage(2, 0, 0);
        due.fails(Due.INDEX, () -> x.look(1, true));
        due.is(105, () -> x.entry(0, 0));
        due.is(200, () -> x.check());
        due.is(0, () -> x.check());
        due.is(2, () -> x.look(503, true));
        due.is(3, () -> x.file(6, 15));

        due.about("an emptied folder");
        Inodery y = new Inodery();
        y.folder(1, 15);
        y.file(101, 15);
        y.damage(2, 1, 0);
        due.isTrue(y.remove(1));
        due.is(100, () -> y.check());
    }

    private static void refused(Due due) {
        due.about("damage refused");
        Inodery x = Disks.withFiles(2);
        x.folder(3, 15);
        x.link(4, 1);
        x.write(0, 0, 5);
        due.fails(Due.ARGUMENT, () -> x.damage(-1, 1, 2));
        due.fails(Due.ARGUMENT, () -> x.damage(3, 9, 9));
        due.fails(Due.INDEX, () -> x.damage(0, 9, 0));
        due.fails(Due.INDEX, () -> x.damage(0, -1, 0));
        due.fails(Due.INDEX, () -> x.damage(0, 32, 0));
        due.fails(Due.INDEX, () -> x.damage(1, 9, 1));
        due.fails(Due.INDEX, () -> x.damage(1, 1, 9));
        due.fails(Due.INDEX, () -> x.damage(1, 3, 9));
        due.fails(Due.INDEX, () -> x.damage(2, 9, 0));
        due.fails(Due.STATE, () -> x.damage(1, 1, 2));
        due.fails(Due.STATE, () -> x.damage(1, 1, 1));
        due.fails(Due.STATE, () -> x.damage(1, 3, 1));
        due.fails(Due.STATE, () -> x.damage(1, 4, 1));
        due.fails(Due.STATE, () -> x.damage(1, 2, 3));
        due.fails(Due.STATE, () -> x.damage(2, 3, 0));
        due.fails(Due.STATE, () -> x.damage(2, 1, 0));
        due.fails(Due.STATE, () -> x.damage(2, 4, 0));
        due.is(5, () -> x.read(0, 0));
        x.user(3);
        x.damage(1, 2, 1);
        due.is(16, () -> x.page(2, 0, 1));
        due.fails(Due.STATE, () -> x.check());
        due.is(16, () -> x.page(2, 0, 1));
    }

    private static void pagesMended(Due due) {
        due.about("pages mended");
        Inodery x = Disks.withFiles(3);
        x.write(1, 0, 5);
        x.damage(1, 1, 2);
        x.damage(1, 3, 2);
        x.write(1, 0, 6);
        x.write(0, 0, 7);
        x.write(2, 0, 8);
        x.close(0);
        x.close(1);
        due.fails(Due.STATE, () -> x.check());
        x.close(2);
        due.is(3, () -> x.used(0));
        due.is(20000, () -> x.check());
        due.is(Inodery.WRITTEN, () -> x.page(1, 0, 0));
        due.is(1, () -> x.page(1, 0, 2));
        due.is(Inodery.HOLE, () -> x.page(2, 0, 0));
        due.is(Inodery.NONE, () -> x.page(3, 0, 1));
        due.is(1, () -> x.dirty());
        due.is(1, () -> x.used(0));
        x.commit();
        due.is(7, () -> x.number(32));

        due.about("pages of a lost file ahead");
        Inodery y = Disks.withFiles(2);
        y.write(1, 0, 5);
        y.damage(1, 1, 2);
        y.damage(2, 0, 0);
        y.close(0);
        y.close(1);
        due.is(10100, () -> y.check());
        due.is(Inodery.HOLE, () -> y.page(2, 0, 0));
        due.isTrue(y.isFree(32));
        due.is(0, () -> y.dirty());
    }

    private static void thingsMended(Due due) {
        due.about("things mended");
        Inodery x = new Inodery();
        x.folder(1, 15);
        x.folder(102, 15);
        x.file(10203, 15);
        x.link(10204, 1);
        x.hard(10203, 5);
        x.folder(6, 15);
        x.damage(2, 0, 0);
        due.fails(Due.INDEX, () -> x.look(102, true));
        due.is(5, () -> x.about(3, 3) + x.about(2, 4) + x.about(1, 4));
        due.is(301, () -> x.check());
        due.fails(Due.INDEX, () -> x.about(1, 0));
        due.fails(Due.INDEX, () -> x.about(2, 0));
        due.fails(Due.INDEX, () -> x.about(4, 0));
        due.is(1, () -> x.about(3, 3));
        due.is(3, () -> x.look(5, true));
        due.is(1, () -> x.folder(7, 15));
        due.is(0, () -> x.about(1, 4));
        due.isTrue(x.remove(5));
        due.is(0, () -> x.check());

        due.about("things mended with their pages");
        Inodery y = Disks.withFiles(1);
        y.bad(16, true);
        y.write(0, 0, 5);
        y.flush(1);
        y.write(0, 1, 6);
        y.hard(1, 7);
        y.damage(2, 0, 0);
        y.damage(2, 0, 0);
        y.damage(0, 1, 0);
        due.isTrue(y.close(0));
        due.is(2, () -> y.used(0));
        due.is(1, () -> y.dirty());
        due.is(100, () -> y.check());
        due.is(0, () -> y.dirty());
        due.is(0, () -> y.used(0));
        due.isTrue(y.isFree(16));
        due.isTrue(y.isFree(17));
    }

    private static void allMended(Due due) {
        due.about("all mended");
        Inodery x = Disks.withFiles(3);
        x.folder(4, 15);
        x.file(405, 15);
        x.write(0, 0, 1);
        x.write(2, 1, 2);
        x.damage(1, 3, 1);
        x.damage(0, 2, 0);
        x.damage(0, 4, 0);
        x.damage(2, 4, 0);
        for (int handle = 0; handle < 3; handle++) {
            x.close(handle);
        }
        due.is(10102, () -> x.check());
        due.is(0, () -> x.check());
        due.is(2, () -> x.dirty());
        due.is(2, () -> x.used(0));
    }

    /** What an earlier check has seen is nothing to a later one. */
    private static void checksAgain(Due due) {
        due.about("checks again");
        Inodery x = new Inodery();
        x.folder(1, 15);
        x.file(102, 15);
        x.file(3, 15);
        x.file(4, 15);
        x.open(4, true);
        due.is(0, () -> x.write(0, 0, 1));
        x.open(3, true);
        x.damage(1, 3, 4);
        due.fails(Due.STATE, () -> x.check());
        x.close(1);
        due.fails(Due.STATE, () -> x.check());
        x.close(0);
        due.is(10000, () -> x.check());
        due.is(0, () -> x.page(3, 0, 1));
        due.is(Inodery.HOLE, () -> x.page(4, 0, 0));
        due.is(0, () -> x.check());
        x.damage(2, 0, 0);
        due.is(200, () -> x.check());
        due.is(0, () -> x.check());
        due.is(0, () -> x.page(3, 0, 1));
        due.is(2, () -> x.about(0, 4));
    }

    private static void notCommitted(Due due) {
        due.about("damage is of the state of now");
        Inodery x = Disks.withFiles(2);
        x.write(0, 0, 1);
        x.commit();
        x.damage(0, 1, 0);
        x.damage(1, 2, 1);
        x.damage(2, 0, 0);
        x.crash();
        due.is(1, () -> x.about(1, 3));
        due.is(Inodery.HOLE, () -> x.page(2, 0, 0));
        due.is(1, () -> x.look(1, true));
        due.is(0, () -> x.check());
        x.damage(0, 1, 0);
        x.commit();
        x.crash();
        due.is(2, () -> x.about(1, 3));
        x.damage(2, 0, 0);
        due.is(100, () -> x.check());
        x.crash();
        due.is(1, () -> x.look(1, true));
        due.is(1, () -> x.check());
    }
}

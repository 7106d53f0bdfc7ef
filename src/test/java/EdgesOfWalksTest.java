/** The edges that the document names of walks along paths, of rights and of owners: promises 9 to 12, and the Terms. */
public final class EdgesOfWalksTest {
    public static void main(String[] args) {
        Due due = new Due("EdgesOfWalksTest");
        digits(due);
        nameNotThere(due);
        noFolderOnTheWay(due);
        nameOfZero(due);
        fourLinksOnTheWay(due);
        linkAtTheEnd(due);
        sameLinkAgain(due);
        walksCountAnew(due);
        longWay(due);
        walkNeedsNoRight(due);
        rights(due);
        own(due);
        look(due);
        openArguments(due);
        openByRights(due);
        openAtMost(due);
        due.end();
    }

    private static void digits(Due due) {
        due.about("a path is up to 8 digits, two for each name, from the left");
        Inodery x = new Inodery();
        x.folder(5, 15);
        x.folder(50, 15);
        x.folder(505, 15);
        x.file(5005, 15);
        x.folder(50505, 15);
        x.file(5050510, 15);
        due.is(1, () -> x.look(5, true));
        due.is(2, () -> x.look(50, true));
        due.is(3, () -> x.look(505, true));
        due.is(4, () -> x.look(5005, true));
        due.is(5, () -> x.look(50505, true));
        due.is(6, () -> x.look(5050510, true));
        due.fails(Due.INDEX, () -> x.look(10, true));
        due.fails(Due.INDEX, () -> x.look(550, true));
        due.fails(Due.INDEX, () -> x.look(5050501, true));
    }

    private static void nameNotThere(Due due) {
        due.about("a name is not there");
        Inodery x = new Inodery();
        due.fails(Due.INDEX, () -> x.look(1, true));
        due.fails(Due.INDEX, () -> x.look(99, true));
        x.folder(2, 15);
        x.link(3, 4);
        due.fails(Due.INDEX, () -> x.look(1, true));
        due.fails(Due.INDEX, () -> x.look(4, true));
        due.fails(Due.INDEX, () -> x.look(202, true));
        due.fails(Due.INDEX, () -> x.look(10202, true));
        due.fails(Due.INDEX, () -> x.look(3, true));
        due.fails(Due.INDEX, () -> x.look(301, false));
        x.rename(2, 4);
        due.fails(Due.INDEX, () -> x.look(2, true));
        due.is(1, () -> x.look(3, true));
        x.damage(2, 0, 0);
        due.fails(Due.INDEX, () -> x.look(3, false));
        due.is(1, () -> x.look(4, false));
    }

    private static void noFolderOnTheWay(Due due) {
        due.about("something on the way is no folder");
        Inodery x = new Inodery();
        x.file(1, 15);
        x.link(2, 1);
        x.folder(3, 15);
        x.file(304, 15);
        due.fails(Due.INDEX, () -> x.look(101, true));
        due.fails(Due.INDEX, () -> x.look(201, true));
        due.fails(Due.INDEX, () -> x.look(30401, true));
        due.fails(Due.INDEX, () -> x.look(10304, true));
        x.link(5, 101);
        due.fails(Due.INDEX, () -> x.look(5, true));
        due.is(5, () -> x.look(5, false));
        x.link(6, 304);
        due.is(4, () -> x.look(6, true));
        due.fails(Due.INDEX, () -> x.look(601, false));
    }

    private static void nameOfZero(Due due) {
        due.about("a name is 0");
        Inodery x = new Inodery();
        x.folder(1, 15);
        x.folder(102, 15);
        x.link(3, 100);
        x.link(4, 10002);
        x.link(5, 0);
        due.fails(Due.INDEX, () -> x.look(100, true));
        due.fails(Due.INDEX, () -> x.look(100, false));
        due.fails(Due.INDEX, () -> x.look(10000, true));
        due.fails(Due.INDEX, () -> x.look(10002, true));
        due.fails(Due.INDEX, () -> x.look(1000002, true));
        due.fails(Due.INDEX, () -> x.look(10200, true));
        due.fails(Due.INDEX, () -> x.look(500, true));
        due.fails(Due.INDEX, () -> x.look(3, true));
        due.fails(Due.INDEX, () -> x.look(302, true));
        due.fails(Due.INDEX, () -> x.look(4, true));
        due.is(2, () -> x.look(50102, true));
        due.fails(Due.INDEX, () -> x.remove(100));
        due.fails(Due.INDEX, () -> x.rights(100, 1));
        due.fails(Due.INDEX, () -> x.own(100, 1));
        due.fails(Due.INDEX, () -> x.open(100, false));
        x.snapshot();
        due.fails(Due.INDEX, () -> x.readOld(0, 100, 0));
    }

    /** The link 1 leads by four links to the folder 5, the link 6 by five. */
    private static Inodery withChain() {
        Inodery x = new Inodery();
        x.link(1, 2);
        x.link(2, 3);
        x.link(3, 4);
        x.link(4, 5);
        x.folder(5, 15);
        x.link(6, 1);
        x.file(501, 15);
        return x;
    }

    private static void fourLinksOnTheWay(Due due) {
        due.about("at most 4 links are followed on the way");
        Inodery x = withChain();
        due.is(8, () -> x.file(102, 15));
        due.is(9, () -> x.folder(103, 15));
        due.is(10, () -> x.link(104, 0));
        due.is(2, () -> x.hard(101, 105));
        due.is(10, () -> x.rename(104, 106));
        due.is(7, () -> x.rename(105, 105));
        due.isTrue(x.remove(102));
        due.is(15, () -> x.rights(101, 7));
        due.is(0, () -> x.own(101, 0));
        due.is(7, () -> x.look(101, true));
        due.is(5, () -> x.look(1, true));
        due.is(0, () -> x.open(101, true));
        due.is(0, () -> x.snapshot());
        due.is(0, () -> x.readOld(0, 101, 0));
        due.about("there are more links on the way");
        due.fails(Due.INDEX, () -> x.file(602, 15));
        due.fails(Due.INDEX, () -> x.folder(602, 15));
        due.fails(Due.INDEX, () -> x.link(602, 0));
        due.fails(Due.INDEX, () -> x.hard(601, 107));
        due.fails(Due.INDEX, () -> x.hard(101, 607));
        due.fails(Due.INDEX, () -> x.rename(601, 107));
        due.fails(Due.INDEX, () -> x.rename(101, 607));
        due.fails(Due.INDEX, () -> x.rename(601, 601));
        due.fails(Due.INDEX, () -> x.remove(601));
        due.fails(Due.INDEX, () -> x.rights(601, 7));
        due.fails(Due.INDEX, () -> x.own(601, 0));
        due.fails(Due.INDEX, () -> x.look(601, true));
        due.fails(Due.INDEX, () -> x.look(601, false));
        due.fails(Due.INDEX, () -> x.look(6, true));
        due.fails(Due.INDEX, () -> x.open(601, true));
        due.fails(Due.INDEX, () -> x.readOld(0, 601, 0));
    }

    private static void linkAtTheEnd(Due due) {
        due.about("a link at the end is followed where that is told");
        Inodery x = withChain();
        x.link(502, 501);
        due.is(8, () -> x.look(102, false));
        due.fails(Due.INDEX, () -> x.look(102, true));
        due.is(7, () -> x.look(202, true));
        due.fails(Due.INDEX, () -> x.open(102, false));
        due.is(0, () -> x.open(202, false));
        due.fails(Due.INDEX, () -> x.rights(102, 3));
        due.is(15, () -> x.rights(202, 3));
        due.is(3, () -> x.about(7, 2));
        due.fails(Due.INDEX, () -> x.own(102, 3));
        due.is(0, () -> x.own(202, 3));
        due.is(3, () -> x.about(7, 1));
        due.about("a link at the end is not followed behind four others");
        due.is(2, () -> x.hard(102, 103));
        due.is(8, () -> x.rename(103, 104));
        due.isFalse(x.remove(104));
        due.isTrue(x.remove(102));
        due.is(7, () -> x.look(101, true));
    }

    private static void sameLinkAgain(Due due) {
        due.about("a link that is followed again counts again");
        Inodery x = new Inodery();
        x.link(7, 0);
        x.link(8, 7070707);
        x.link(9, 9);
        x.link(10, 11);
        x.link(11, 10);
        x.link(12, 707);
        due.is(0, () -> x.look(7070707, true));
        due.is(1, () -> x.look(7070707, false));
        due.is(2, () -> x.look(7070708, false));
        due.is(2, () -> x.look(8, false));
        due.fails(Due.INDEX, () -> x.look(8, true));
        due.fails(Due.INDEX, () -> x.look(807, false));
        due.fails(Due.INDEX, () -> x.look(9, true));
        due.fails(Due.INDEX, () -> x.look(909, false));
        due.fails(Due.INDEX, () -> x.look(10, true));
        due.fails(Due.INDEX, () -> x.look(1011, true));
        due.is(0, () -> x.look(1207, true));
        due.is(1, () -> x.look(120707, false));
        due.fails(Due.INDEX, () -> x.look(120707 * 100 + 7, true));
        due.fails(Due.INDEX, () -> x.look(1212, true));
    }

    private static void walksCountAnew(Due due) {
        due.about("each walk has its own 4 links");
        Inodery x = withChain();
        due.is(7, () -> x.rename(101, 102));
        due.is(2, () -> x.hard(102, 103));
        due.is(7, () -> x.rename(102, 104));
        due.is(7, () -> x.look(104, true));
        due.is(7, () -> x.look(104, true));
        due.fails(Due.INDEX, () -> x.look(604, true));
        due.is(7, () -> x.look(104, true));
    }

    /** Four links of paths of four names each, and a path of four names: the longest way that there is. */
    private static void longWay(Due due) {
        due.about("a link goes on by its own path, from the root, and then by what is left");
        Inodery x = new Inodery();
        for (int name = 1; name <= 3; name++) {
            x.folder(name, 15);
            x.folder(101 * name, 15);
            x.folder(10101 * name, 15);
        }
        x.file(3030301, 15);
        x.link(1010109, 2020209);
        x.link(2020209, 3030309);
        x.link(3030309, 1010108);
        x.link(1010108, 30303);
        due.is(14, () -> x.look(1010108, false));
        due.is(9, () -> x.look(1010109, true));
        due.is(9, () -> x.look(30303, true));
        x.link(4, 1010109);
        due.fails(Due.INDEX, () -> x.look(4, true));
        x.link(5, 2020209);
        due.is(10, () -> x.look(501, true));
        due.fails(Due.INDEX, () -> x.look(401, true));
        x.link(6, 3030309);
        x.folder(3030302, 15);
        x.folder(60202, 15);
        due.is(19, () -> x.look(60202, false));
        due.fails(Due.INDEX, () -> x.look(60203, false));
    }

    private static void walkNeedsNoRight(Due due) {
        due.about("the user 0 may do all; others go along folders without any right");
        Inodery x = new Inodery();
        x.folder(1, 0);
        x.folder(102, 0);
        x.file(10203, 3);
        x.rights(0, 0);
        x.user(1);
        due.is(3, () -> x.look(10203, true));
        due.is(0, () -> x.open(10203, true));
        due.fails(Due.STATE, () -> x.file(10204, 15));
        x.user(0);
        due.is(4, () -> x.file(10204, 15));
    }

    private static void rights(Due due) {
        due.about("9: path or rights is out of range");
        Inodery x = new Inodery();
        x.user(1);
        x.file(1, 9);
        x.link(2, 1);
        due.outside(Due.ARGUMENT, 0, 99999999, path -> x.rights(path, 15));
        due.outside(Due.ARGUMENT, 0, 15, rights -> x.rights(1, rights));
        due.outside(Due.ARGUMENT, 0, 15, rights -> x.rights(9, rights));
        due.about("9: what they were");
        due.is(9, () -> x.rights(1, 0));
        due.is(0, () -> x.rights(1, 15));
        due.is(15, () -> x.rights(1, 15));
        due.is(15, () -> x.rights(2, 6));
        due.is(6, () -> x.about(1, 2));
        due.is(15, () -> x.about(2, 2));
        due.about("9: there is no such thing");
        due.fails(Due.INDEX, () -> x.rights(9, 15));
        due.fails(Due.INDEX, () -> x.rights(101, 15));
        due.fails(Due.INDEX, () -> x.rights(99999999, 15));
        due.about("9: the user of now is neither 0 nor its owner");
        due.fails(Due.STATE, () -> x.rights(0, 15));
        x.user(2);
        due.fails(Due.STATE, () -> x.rights(1, 6));
        due.fails(Due.STATE, () -> x.rights(2, 6));
        due.fails(Due.INDEX, () -> x.rights(9, 6));
        due.fails(Due.ARGUMENT, () -> x.rights(1, 16));
        x.user(0);
        due.is(6, () -> x.rights(1, 5));
        due.is(15, () -> x.rights(0, 0));
        due.about("9: the owner gives rights, whatever they are");
        x.rights(1, 0);
        x.user(1);
        due.is(0, () -> x.rights(1, 8));
    }

    private static void own(Due due) {
        due.about("10: path is out of range");
        Inodery x = Disks.withFiles(1);
        x.link(2, 1);
        due.outside(Due.ARGUMENT, 0, 99999999, path -> x.own(path, 1));
        due.outside(Due.ARGUMENT, 0, 99999999, path -> x.own(path, 4));
        due.about("10: there is no such thing or user");
        due.outside(Due.INDEX, 0, 3, owner -> x.own(1, owner));
        due.outside(Due.INDEX, 0, 3, owner -> x.own(9, owner));
        due.fails(Due.INDEX, () -> x.own(9, 0));
        due.about("10: who it was");
        due.is(0, () -> x.own(1, 3));
        due.is(3, () -> x.own(2, 1));
        due.is(1, () -> x.own(1, 1));
        due.is(0, () -> x.about(2, 1));
        due.is(0, () -> x.own(0, 3));
        due.is(3, () -> x.own(0, 0));
        due.about("10: whatever their quota");
        x.ahead(0, 0, 15);
        x.quota(2, 0);
        due.is(1, () -> x.own(1, 2));
        due.is(16, () -> x.used(2));
        due.is(0, () -> x.used(1));
        due.about("10: the user of now is not 0");
        for (int user = 1; user <= 3; user++) {
            x.user(user);
            due.fails(Due.STATE, () -> x.own(1, 2));
            due.fails(Due.STATE, () -> x.own(0, 0));
            due.fails(Due.INDEX, () -> x.own(9, 2));
            due.fails(Due.INDEX, () -> x.own(1, 4));
            due.fails(Due.ARGUMENT, () -> x.own(-1, 2));
        }
        due.is(2, () -> x.about(1, 1));
    }

    private static void look(Due due) {
        due.about("11: path is out of range, or 0");
        Inodery x = new Inodery();
        due.outside(Due.ARGUMENT, 0, 99999999, path -> x.look(path, true));
        due.outside(Due.ARGUMENT, 0, 99999999, path -> x.look(path, false));
        due.is(0, () -> x.look(0, true));
        due.about("11: there is no such thing");
        due.fails(Due.INDEX, () -> x.look(1, true));
        due.fails(Due.INDEX, () -> x.look(99999999, false));
        x.file(1, 0);
        x.user(3);
        due.is(1, () -> x.look(1, true));
        x.user(0);
        due.is(0, () -> x.open(1, true));
        due.isFalse(x.remove(1));
        due.fails(Due.INDEX, () -> x.look(1, true));
    }

    private static void openArguments(Due due) {
        due.about("12: path is out of range");
        Inodery x = new Inodery();
        x.folder(1, 15);
        x.file(2, 0);
        x.link(3, 2);
        x.link(4, 1);
        x.link(5, 0);
        x.link(6, 99);
        due.outside(Due.ARGUMENT, 0, 99999999, path -> x.open(path, true));
        due.about("12: there is no such thing");
        due.fails(Due.INDEX, () -> x.open(9, false));
        due.fails(Due.INDEX, () -> x.open(6, false));
        due.fails(Due.INDEX, () -> x.open(201, false));
        due.about("12: it is no file");
        due.fails(Due.STATE, () -> x.open(0, false));
        due.fails(Due.STATE, () -> x.open(1, false));
        due.fails(Due.STATE, () -> x.open(4, true));
        due.fails(Due.STATE, () -> x.open(5, true));
        due.about("12: the handle, the lowest number that was not");
        due.is(0, () -> x.open(2, true));
        due.is(1, () -> x.open(3, true));
        due.is(2, () -> x.about(2, 5));
        due.about("12: no such thing comes ahead of what the user may not");
        x.user(1);
        due.fails(Due.INDEX, () -> x.open(9, true));
        due.fails(Due.STATE, () -> x.open(2, false));
    }

    /** To read needs the 8 of the owner, the 2 of others; to write the 4 or the 1 as well. */
    private static void openByRights(Due due) {
        due.about("12: to read needs the right to read, to write that to write as well");
        for (int rights = 0; rights < 16; rights++) {
            Inodery x = new Inodery();
            x.file(1, rights);
            x.own(1, 3);
            opens(due, x, 3, false, (rights & 8) != 0);
            opens(due, x, 3, true, (rights & 12) == 12);
            opens(due, x, 1, false, (rights & 2) != 0);
            opens(due, x, 1, true, (rights & 3) == 3);
            opens(due, x, 0, false, true);
            opens(due, x, 0, true, true);
        }
    }

    private static void opens(Due due, Inodery x, int user, boolean isWriting, boolean isAllowed) {
        x.user(user);
        int before = x.about(1, 5);
        if (isAllowed) {
            due.is(before, () -> x.open(1, isWriting));
        } else {
            due.fails(Due.STATE, () -> x.open(1, isWriting));
        }
    }

    private static void openAtMost(Due due) {
        due.about("12: there were 30 handles");
        Inodery x = Disks.withFiles(2);
        x.commit();
        for (int handle = 2; handle < 30; handle++) {
            int each = handle;
            due.is(each, () -> x.open(1, each % 2 == 0));
        }
        due.is(29, () -> x.about(1, 5));
        due.fails(Due.STATE, () -> x.open(1, false));
        due.fails(Due.STATE, () -> x.open(2, true));
        due.about("12: there were 30 handles ever, closed ones among them");
        for (int handle = 0; handle < 30; handle++) {
            due.isFalse(x.close(handle));
        }
        due.is(0, () -> x.about(1, 5));
        due.fails(Due.STATE, () -> x.open(1, false));
        due.fails(Due.INDEX, () -> x.open(9, false));
        due.fails(Due.INDEX, () -> x.close(30));
        x.crash();
        due.fails(Due.STATE, () -> x.open(1, false));
    }
}

/** The edges that the document names of users, paths, folders and names: promises 1 to 8, a sentence at a time. */
public final class EdgesOfNamesTest {
    /** Makes a thing of one of the three kinds. */
    interface Maker {
        int make(Inodery x, int path);
    }

    private static final Maker[] MAKERS = {
        (x, path) -> x.file(path, 15), (x, path) -> x.folder(path, 15), (x, path) -> x.link(path, 0)
    };

    public static void main(String[] args) {
        Due due = new Due("EdgesOfNamesTest");
        newObject(due);
        user(due);
        root(due);
        for (int kind = 0; kind < MAKERS.length; kind++) {
            madePaths(due, MAKERS[kind], kind);
            madeNowhere(due, MAKERS[kind]);
            madeByUsers(due, MAKERS[kind], kind);
            madeInFull(due, MAKERS[kind]);
            madeOfAll(due, MAKERS[kind]);
        }
        madeArguments(due);
        lowestNumbers(due);
        hard(due);
        hardRefused(due);
        renameArguments(due);
        renameOfSame(due);
        renameIntoItself(due);
        renameOver(due);
        renameOverOwnParent(due);
        renameInFull(due);
        renameByUsers(due);
        renameLosesName(due);
        remove(due);
        removeGone(due);
        removeRefused(due);
        due.end();
    }

    private static void newObject(Due due) {
        due.about("1: the root alone, committed");
        Inodery x = new Inodery();
        due.is(0, () -> x.crash());
        due.is(Inodery.FOLDER, () -> x.about(0, 0));
        due.fails(Due.INDEX, () -> x.entry(0, 0));
        for (int thing = 1; thing < 32; thing++) {
            int each = thing;
            due.fails(Due.INDEX, () -> x.about(each, 0));
        }
        due.is(0, () -> x.check());
        due.is(0, () -> x.commit());
        due.is(0, () -> x.snapshot());
        due.fails(Due.STATE, () -> x.readOld(0, 0, 0));
        due.is(0, () -> x.drop(0));
        due.fails(Due.INDEX, () -> x.drop(0));
        due.fails(Due.INDEX, () -> x.close(0));

        due.about("1: all blocks free, each of the number 0 and good");
        Inodery y = new Inodery();
        for (int block = 0; block < 64; block++) {
            int each = block;
            due.isTrue(y.isFree(block));
            due.is(0, () -> y.number(each));
            due.isFalse(y.bad(block, false));
        }
        due.about("1: the user 0");
        due.is(0, () -> y.user(1));
    }

    private static void user(Due due) {
        due.about("2: the users are 0 to 3");
        Inodery x = new Inodery();
        due.outside(Due.INDEX, 0, 3, user -> x.user(user));
        due.is(0, () -> x.user(3));
        due.outside(Due.INDEX, 0, 3, user -> x.user(user));
        due.is(3, () -> x.user(3));
        due.is(3, () -> x.user(0));
        due.is(0, () -> x.user(0));
    }

    private static void root(Due due) {
        due.about("0 is the root, which has no name and is always there");
        Inodery x = new Inodery();
        x.link(1, 0);
        due.is(0, () -> x.look(0, false));
        due.is(0, () -> x.look(0, true));
        due.is(0, () -> x.look(1, true));
        due.is(0, () -> x.about(0, 3));
        due.fails(Due.ARGUMENT, () -> x.remove(0));
        due.fails(Due.ARGUMENT, () -> x.rename(0, 2));
        due.fails(Due.ARGUMENT, () -> x.rename(1, 0));
        due.fails(Due.ARGUMENT, () -> x.hard(0, 2));
        due.fails(Due.ARGUMENT, () -> x.hard(1, 0));
        due.is(15, () -> x.rights(0, 7));
        due.is(0, () -> x.own(0, 3));
        x.damage(2, 0, 0);
        due.is(100, () -> x.check());
        due.is(Inodery.FOLDER, () -> x.about(0, 0));
        due.is(7, () -> x.about(0, 2));
        x.crash();
        due.is(15, () -> x.about(0, 2));
    }

    private static void madePaths(Due due, Maker maker, int kind) {
        due.about("3 to 5: a path is 1 to 99999999, kind " + kind);
        Inodery x = new Inodery();
        due.outside(Due.ARGUMENT, 1, 99999999, path -> maker.make(x, path));
        x.folder(99, 15);
        x.folder(9999, 15);
        x.folder(999999, 15);
        due.is(4, () -> maker.make(x, 99999999));
        due.is(499, () -> x.entry(3, 0));
        due.is(5, () -> maker.make(x, 99999901));
        due.is(501, () -> x.entry(3, 0));

        due.about("3 to 5: names are 1 to 99, kind " + kind);
        due.is(6, () -> maker.make(x, 1));
        due.is(7, () -> maker.make(x, 98));
        due.is(8, () -> maker.make(x, 9901));
        due.is(kind, () -> x.about(8, 0));
        due.is(1, () -> x.about(8, 3));
        due.is(0, () -> x.about(8, 4));
        due.is(601, () -> x.entry(0, 0));
        due.is(798, () -> x.entry(0, 1));
        due.is(199, () -> x.entry(0, 2));
    }

    private static void madeNowhere(Due due, Maker maker) {
        due.about("3 to 5: no such folder, or the last name is 0");
        Inodery x = new Inodery();
        x.folder(1, 15);
        x.file(2, 15);
        x.link(3, 2);
        x.link(4, 9);
        due.fails(Due.INDEX, () -> maker.make(x, 100));
        due.fails(Due.INDEX, () -> maker.make(x, 10000));
        due.fails(Due.INDEX, () -> maker.make(x, 1000000));
        due.fails(Due.INDEX, () -> maker.make(x, 99999900));
        due.fails(Due.INDEX, () -> maker.make(x, 10005));
        due.fails(Due.INDEX, () -> maker.make(x, 205));
        due.fails(Due.INDEX, () -> maker.make(x, 305));
        due.fails(Due.INDEX, () -> maker.make(x, 405));
        due.fails(Due.INDEX, () -> maker.make(x, 905));
        due.fails(Due.INDEX, () -> maker.make(x, 10905));
        due.about("3 to 5: no such folder comes ahead of what the user may not");
        x.rights(0, 0);
        x.user(3);
        due.fails(Due.INDEX, () -> maker.make(x, 200));
        due.fails(Due.INDEX, () -> maker.make(x, 905));
        due.fails(Due.STATE, () -> maker.make(x, 5));
        due.is(4, () -> x.about(0, 4));
    }

    /** The folder's owner needs the 4, others the 1, the user 0 nothing. */
    private static void madeByUsers(Due due, Maker maker, int kind) {
        due.about("3 to 5: the user may not, kind " + kind);
        for (int rights = 0; rights < 16; rights++) {
            Inodery x = new Inodery();
            x.folder(1, rights);
            x.own(1, 2);
            madeByUser(due, maker, x, 2, (rights & 4) != 0);
            madeByUser(due, maker, x, 3, (rights & 1) != 0);
            madeByUser(due, maker, x, 0, true);
        }
    }

    private static void madeByUser(Due due, Maker maker, Inodery x, int user, boolean isAllowed) {
        x.user(user);
        int before = x.about(1, 4);
        if (isAllowed) {
            due.is(before + 2, () -> maker.make(x, 105 + user));
            due.is(user, () -> x.about(before + 2, 1));
        } else {
            due.fails(Due.STATE, () -> maker.make(x, 105 + user));
            due.is(before, () -> x.about(1, 4));
        }
    }

    private static void madeInFull(Due due, Maker maker) {
        due.about("3 to 5: the folder has that name or 8 entries");
        Inodery x = new Inodery();
        x.folder(1, 15);
        for (int name = 1; name <= 8; name++) {
            int each = name;
            due.is(each + 1, () -> maker.make(x, 100 + each));
            due.fails(Due.STATE, () -> maker.make(x, 100 + each));
        }
        due.fails(Due.STATE, () -> maker.make(x, 109));
        due.fails(Due.STATE, () -> maker.make(x, 199));
        due.is(8, () -> x.about(1, 4));
        due.is(10, () -> maker.make(x, 2));
        due.isTrue(x.remove(104));
        due.is(5, () -> maker.make(x, 109));
        due.fails(Due.STATE, () -> maker.make(x, 104));
        due.fails(Due.INDEX, () -> x.entry(1, 8));
        due.is(509, () -> x.entry(1, 7));
    }

    private static void madeOfAll(Due due, Maker maker) {
        due.about("3 to 5: there are 32 things");
        Inodery x = Disks.withAllThings();
        due.is(Inodery.FILE, () -> x.about(31, 0));
        due.fails(Due.STATE, () -> maker.make(x, 401));
        due.fails(Due.STATE, () -> maker.make(x, 8));
        due.fails(Due.INDEX, () -> maker.make(x, 400));
        due.fails(Due.INDEX, () -> maker.make(x, 801));
        due.is(2, () -> x.hard(101, 401));
        due.isTrue(x.remove(308));
        due.is(31, () -> maker.make(x, 402));
        due.fails(Due.STATE, () -> maker.make(x, 403));
        due.isTrue(x.remove(7));
        due.is(7, () -> maker.make(x, 403));

        due.about("3 to 5: there are 32 things, one without names");
        x.open(301, true);
        due.isFalse(x.remove(301));
        due.fails(Due.STATE, () -> maker.make(x, 404));
        due.isFalse(x.close(0));
        due.is(24, () -> maker.make(x, 404));
    }

    private static void madeArguments(Due due) {
        due.about("3, 4: rights are 0 to 15");
        Inodery x = new Inodery();
        due.outside(Due.ARGUMENT, 0, 15, rights -> x.file(1, rights));
        due.outside(Due.ARGUMENT, 0, 15, rights -> x.folder(1, rights));
        due.outside(Due.ARGUMENT, 0, 15, rights -> x.file(900, rights));
        due.outside(Due.ARGUMENT, 0, 15, rights -> x.folder(901, rights));
        due.is(0, () -> x.about(0, 4));
        due.is(1, () -> x.file(1, 0));
        due.is(2, () -> x.file(2, 15));
        due.is(3, () -> x.folder(3, 0));
        due.is(4, () -> x.folder(4, 15));
        due.is(0, () -> x.about(1, 2) + x.about(3, 2));
        due.is(30, () -> x.about(2, 2) + x.about(4, 2));
        due.outside(Due.ARGUMENT, 0, 15, rights -> x.file(1, rights));
        due.outside(Due.ARGUMENT, 0, 15, rights -> x.folder(1, rights));

        due.about("5: the path of a link is 0 to 99999999; nothing needs to be there");
        due.outside(Due.ARGUMENT, 0, 99999999, target -> x.link(5, target));
        due.outside(Due.ARGUMENT, 0, 99999999, target -> x.link(900, target));
        due.outside(Due.ARGUMENT, 0, 99999999, target -> x.link(1, target));
        due.is(5, () -> x.link(5, 0));
        due.is(6, () -> x.link(6, 99999999));
        due.is(7, () -> x.link(7, 100));
        due.is(0, () -> x.target(5));
        due.is(99999999, () -> x.target(6));
        due.is(100, () -> x.target(7));
        due.is(15, () -> x.about(6, 2));
        due.fails(Due.INDEX, () -> x.look(6, true));
        due.fails(Due.INDEX, () -> x.look(7, true));
        due.is(6, () -> x.look(506, false));
    }

    private static void lowestNumbers(Due due) {
        due.about("a new thing gets the lowest number that none has now");
        Inodery x = Disks.withAllThings();
        x.snapshot();
        x.remove(203);
        x.remove(102);
        x.remove(308);
        due.is(9, () -> x.file(401, 15));
        due.is(18, () -> x.link(402, 0));
        due.is(31, () -> x.folder(403, 15));
        due.fails(Due.STATE, () -> x.file(404, 15));
        due.is(0, () -> x.readOld(0, 308, 0));
        x.crash();
        due.is(Inodery.FILE, () -> x.about(31, 0));
        due.fails(Due.STATE, () -> x.file(401, 15));
    }

    private static void hard(Due due) {
        due.about("6: how many names it has then");
        Inodery x = new Inodery();
        x.folder(1, 15);
        x.file(2, 15);
        x.link(3, 2);
        for (int name = 1; name <= 6; name++) {
            int each = name;
            due.is(each + 1, () -> x.hard(2, 100 + each));
        }
        due.about("6: a link at the end is not followed");
        due.is(2, () -> x.hard(3, 107));
        due.is(2, () -> x.about(3, 3));
        due.is(7, () -> x.about(2, 3));
        due.is(3, () -> x.hard(3, 199));
        due.is(3, () -> x.look(199, false));
        due.is(2, () -> x.look(199, true));
        due.about("6: the folder has 8 entries");
        due.fails(Due.STATE, () -> x.hard(2, 108));
        due.fails(Due.STATE, () -> x.hard(2, 101));
        due.is(8, () -> x.hard(2, 99));
        due.about("6: the folder has that name, of the same thing or another one");
        due.fails(Due.STATE, () -> x.hard(2, 2));
        due.fails(Due.STATE, () -> x.hard(2, 3));
        due.fails(Due.STATE, () -> x.hard(99, 1));
        due.is(8, () -> x.about(2, 3));
    }

    private static void hardRefused(Due due) {
        due.about("6: path or to is out of range");
        Inodery x = new Inodery();
        x.folder(1, 15);
        x.file(2, 15);
        due.outside(Due.ARGUMENT, 1, 99999999, path -> x.hard(path, 3));
        due.outside(Due.ARGUMENT, 1, 99999999, path -> x.hard(2, path));
        due.outside(Due.ARGUMENT, 1, 99999999, path -> x.hard(9, path));
        due.outside(Due.ARGUMENT, 1, 99999999, path -> x.hard(1, path));
        due.about("6: no such thing, or no such folder, or the last name of to is 0");
        due.fails(Due.INDEX, () -> x.hard(9, 3));
        due.fails(Due.INDEX, () -> x.hard(100, 3));
        due.fails(Due.INDEX, () -> x.hard(2, 903));
        due.fails(Due.INDEX, () -> x.hard(2, 203));
        due.fails(Due.INDEX, () -> x.hard(2, 100));
        due.fails(Due.INDEX, () -> x.hard(2, 99999900));
        due.about("6: no such thing comes ahead of what else is wrong");
        due.fails(Due.INDEX, () -> x.hard(9, 2));
        due.fails(Due.INDEX, () -> x.hard(1, 900));
        due.fails(Due.INDEX, () -> x.hard(1, 903));
        due.about("6: it is a folder");
        due.fails(Due.STATE, () -> x.hard(1, 3));
        due.fails(Due.STATE, () -> x.hard(1, 101));
        due.about("6: the user may not change the folder");
        x.folder(4, 0);
        x.rights(1, 1);
        x.rights(2, 0);
        x.rights(0, 0);
        x.user(1);
        due.fails(Due.STATE, () -> x.hard(2, 3));
        due.fails(Due.STATE, () -> x.hard(2, 402));
        due.is(2, () -> x.hard(2, 102));
        due.is(2, () -> x.about(2, 3));
        due.is(3, () -> x.about(0, 4));
    }

    private static void renameArguments(Due due) {
        due.about("7: from or to is out of range");
        Inodery x = new Inodery();
        x.file(1, 15);
        due.outside(Due.ARGUMENT, 1, 99999999, path -> x.rename(path, 1));
        due.outside(Due.ARGUMENT, 1, 99999999, path -> x.rename(1, path));
        due.outside(Due.ARGUMENT, 1, 99999999, path -> x.rename(9, path));
        due.about("7: no such thing, or no such folder, or the last name of to is 0");
        due.fails(Due.INDEX, () -> x.rename(9, 2));
        due.fails(Due.INDEX, () -> x.rename(9, 9));
        due.fails(Due.INDEX, () -> x.rename(9, 1));
        due.fails(Due.INDEX, () -> x.rename(100, 2));
        due.fails(Due.INDEX, () -> x.rename(1, 100));
        due.fails(Due.INDEX, () -> x.rename(1, 902));
        due.fails(Due.INDEX, () -> x.rename(1, 102));
        due.fails(Due.INDEX, () -> x.rename(1, 200));
        due.fails(Due.INDEX, () -> x.rename(101, 2));
        due.is(1, () -> x.rename(1, 99));
        due.is(199, () -> x.entry(0, 0));
        due.about("7: no such thing comes ahead of what the user may not");
        x.rights(0, 0);
        x.user(2);
        due.fails(Due.INDEX, () -> x.rename(1, 2));
        due.fails(Due.INDEX, () -> x.rename(99, 9900));
        due.fails(Due.STATE, () -> x.rename(99, 2));
    }

    private static void renameOfSame(Due due) {
        due.about("7: both names are of the same thing");
        Inodery x = new Inodery();
        x.file(1, 15);
        x.hard(1, 2);
        x.folder(3, 15);
        x.hard(1, 301);
        x.link(4, 3);
        x.hard(4, 302);
        due.is(1, () -> x.rename(1, 1));
        due.is(1, () -> x.rename(1, 2));
        due.is(1, () -> x.rename(301, 1));
        due.is(2, () -> x.rename(3, 3));
        due.is(3, () -> x.rename(4, 302));
        due.is(3, () -> x.about(1, 3));
        due.is(4, () -> x.about(0, 4));
        due.is(2, () -> x.about(2, 4));
        due.about("7: both names are of the same thing, whatever the user may");
        x.rights(0, 0);
        x.rights(3, 0);
        x.user(3);
        due.is(1, () -> x.rename(2, 301));
        due.is(1, () -> x.rename(2, 2));
        due.is(2, () -> x.rename(3, 3));
        due.is(3, () -> x.rename(402, 4));
        due.fails(Due.INDEX, () -> x.rename(2, 200));
        due.fails(Due.ARGUMENT, () -> x.rename(2, 0));
        due.is(3, () -> x.about(1, 3));
    }

    private static void renameIntoItself(Due due) {
        due.about("7: a folder would come into itself or what is below it");
        Inodery x = new Inodery();
        x.folder(1, 15);
        x.folder(102, 15);
        x.folder(10203, 15);
        x.link(4, 10203);
        x.link(5, 1);
        due.fails(Due.STATE, () -> x.rename(1, 101));
        due.fails(Due.STATE, () -> x.rename(1, 10201));
        due.fails(Due.STATE, () -> x.rename(1, 1020301));
        due.fails(Due.STATE, () -> x.rename(1, 401));
        due.fails(Due.STATE, () -> x.rename(1, 501));
        due.fails(Due.STATE, () -> x.rename(102, 401));
        due.fails(Due.STATE, () -> x.rename(10203, 401));
        due.fails(Due.STATE, () -> x.rename(502, 10201));
        due.about("7: a folder comes to what is above it, or beside");
        due.is(2, () -> x.rename(102, 103));
        due.is(3, () -> x.rename(10303, 102));
        due.is(3, () -> x.rename(102, 10301));
        due.is(3, () -> x.rename(10301, 2));
        due.is(1, () -> x.rename(1, 201));
        due.is(2, () -> x.look(20103, false));
        due.about("7: a link comes into the folder that it leads to");
        due.is(4, () -> x.rename(4, 205));
        due.is(5, () -> x.rename(5, 20104));
        due.is(2, () -> x.about(1, 4));
    }

    private static void renameOver(Due due) {
        due.about("7: a folder would take the place of what is no folder or has entries");
        Inodery x = new Inodery();
        x.folder(1, 15);
        x.folder(2, 15);
        x.file(3, 15);
        x.link(4, 1);
        x.file(201, 15);
        due.fails(Due.STATE, () -> x.rename(1, 3));
        due.fails(Due.STATE, () -> x.rename(1, 4));
        due.fails(Due.STATE, () -> x.rename(1, 2));
        due.about("7: something else would take the place of a folder");
        due.fails(Due.STATE, () -> x.rename(3, 1));
        due.fails(Due.STATE, () -> x.rename(4, 1));
        due.fails(Due.STATE, () -> x.rename(3, 2));
        due.fails(Due.STATE, () -> x.rename(201, 1));
        due.is(4, () -> x.about(0, 4));
        due.about("7: if something else is there, it loses that name");
        due.is(2, () -> x.rename(2, 1));
        due.fails(Due.INDEX, () -> x.about(1, 0));
        due.is(5, () -> x.look(101, false));
        due.is(4, () -> x.rename(4, 3));
        due.fails(Due.INDEX, () -> x.about(3, 0));
        due.is(5, () -> x.rename(101, 3));
        due.fails(Due.INDEX, () -> x.about(4, 0));
        due.is(0, () -> x.about(2, 4));
        due.is(2, () -> x.about(0, 4));
    }

    private static void renameOverOwnParent(Due due) {
        due.about("7: a thing would take the place of a folder that it is in");
        Inodery x = new Inodery();
        x.folder(1, 15);
        x.folder(102, 15);
        x.file(10203, 15);
        due.fails(Due.STATE, () -> x.rename(102, 1));
        due.fails(Due.STATE, () -> x.rename(10203, 102));
        due.fails(Due.STATE, () -> x.rename(10203, 1));
        due.fails(Due.STATE, () -> x.rename(1, 102));
        due.is(3, () -> x.look(10203, false));
        due.about("7: a folder takes the place of one whose entry was lost by damage");
        x.folder(4, 15);
        x.damage(2, 1, 0);
        due.is(4, () -> x.rename(4, 1));
        due.fails(Due.INDEX, () -> x.about(1, 0));
        due.is(200, () -> x.check());
    }

    private static void renameInFull(Due due) {
        due.about("7: the folder has 8 entries, and would have one more");
        Inodery x = new Inodery();
        x.folder(1, 15);
        x.file(2, 15);
        x.file(3, 15);
        for (int name = 1; name <= 8; name++) {
            x.file(100 + name, 15);
        }
        due.fails(Due.STATE, () -> x.rename(2, 109));
        due.fails(Due.STATE, () -> x.rename(2, 199));
        due.about("7: the folder has 8 entries, and would not have one more");
        due.is(4, () -> x.rename(101, 199));
        due.is(8, () -> x.about(1, 4));
        due.is(499, () -> x.entry(1, 7));
        due.is(2, () -> x.rename(2, 102));
        due.fails(Due.INDEX, () -> x.about(5, 0));
        due.is(8, () -> x.about(1, 4));
        due.is(202, () -> x.entry(1, 0));
        due.is(2, () -> x.rename(102, 103));
        due.is(7, () -> x.about(1, 4));
        due.is(3, () -> x.rename(3, 101));
        due.is(8, () -> x.about(1, 4));
        due.is(0, () -> x.check());
    }

    private static void renameByUsers(Due due) {
        due.about("7: the user may not change both folders");
        for (int may = 0; may < 8; may++) {
            Inodery x = new Inodery();
            x.folder(1, (may & 1) != 0 ? 1 : 14);
            x.folder(2, (may & 2) != 0 ? 1 : 14);
            x.file(103, 0);
            x.file(204, 0);
            int to = (may & 4) != 0 ? 204 : 205;
            x.user(1);
            if ((may & 3) == 3) {
                due.is(3, () -> x.rename(103, to));
            } else {
                due.fails(Due.STATE, () -> x.rename(103, to));
                due.is(3, () -> x.look(103, false));
                due.is(4, () -> x.look(204, false));
                x.user(0);
                due.is(3, () -> x.rename(103, to));
            }
        }
        due.about("7: the user may not change the one folder");
        Inodery y = new Inodery();
        y.file(1, 15);
        y.rights(0, 14);
        y.user(3);
        due.fails(Due.STATE, () -> y.rename(1, 2));
        y.user(0);
        due.is(1, () -> y.rename(1, 2));
    }

    private static void renameLosesName(Due due) {
        due.about("7: what is there loses that name alone");
        Inodery x = Disks.withFiles(2);
        x.hard(1, 3);
        x.write(0, 0, 7);
        due.is(2, () -> x.rename(2, 1));
        due.is(1, () -> x.about(1, 3));
        due.is(1, () -> x.look(3, false));
        due.about("7: what is there stays without names while it is open");
        due.is(2, () -> x.rename(1, 3));
        due.is(0, () -> x.about(1, 3));
        due.is(7, () -> x.read(0, 0));
        due.isFalse(x.close(0));
        due.fails(Due.INDEX, () -> x.about(1, 0));
        due.is(0, () -> x.dirty());
        due.about("7: what is there stays by a damaged count");
        x.file(4, 15);
        x.damage(0, 1, 0);
        due.is(2, () -> x.rename(3, 4));
        due.is(1, () -> x.about(1, 3));
        due.is(1, () -> x.about(2, 3));
        due.is(1, () -> x.about(0, 4));
    }

    private static void remove(Due due) {
        due.about("8: path is out of range");
        Inodery x = new Inodery();
        x.folder(1, 15);
        x.folder(102, 15);
        x.folder(10203, 15);
        x.file(1020304, 15);
        x.file(5, 15);
        due.outside(Due.ARGUMENT, 1, 99999999, path -> x.remove(path));
        due.about("8: there is no such thing");
        due.fails(Due.INDEX, () -> x.remove(2));
        due.fails(Due.INDEX, () -> x.remove(99));
        due.fails(Due.INDEX, () -> x.remove(100));
        due.fails(Due.INDEX, () -> x.remove(501));
        due.fails(Due.INDEX, () -> x.remove(1020305));
        due.fails(Due.INDEX, () -> x.remove(99999999));
        due.about("8: it is a folder with entries");
        due.fails(Due.STATE, () -> x.remove(1));
        due.fails(Due.STATE, () -> x.remove(102));
        due.fails(Due.STATE, () -> x.remove(10203));
        due.isTrue(x.remove(1020304));
        due.isTrue(x.remove(10203));
        due.isTrue(x.remove(102));
        due.isTrue(x.remove(1));
        due.isTrue(x.remove(5));
        due.fails(Due.INDEX, () -> x.remove(5));
        due.is(0, () -> x.about(0, 4));
    }

    private static void removeGone(Due due) {
        due.about("8: whether its thing is gone by that");
        Inodery x = Disks.withFiles(2);
        x.hard(1, 3);
        x.open(1, false);
        x.link(4, 2);
        x.hard(4, 5);
        due.isFalse(x.remove(1));
        due.is(1, () -> x.about(1, 3));
        due.isFalse(x.remove(3));
        due.is(0, () -> x.about(1, 3));
        due.isFalse(x.close(0));
        due.is(0, () -> x.about(1, 3));
        due.isFalse(x.close(2));
        due.fails(Due.INDEX, () -> x.about(1, 0));
        due.about("8: a link at the end is not followed");
        due.isFalse(x.remove(4));
        due.isTrue(x.remove(5));
        due.is(2, () -> x.look(2, false));
        due.about("8: a closed one is gone at once");
        due.isFalse(x.close(1));
        due.isTrue(x.remove(2));
        due.is(0, () -> x.about(0, 4));
    }

    private static void removeRefused(Due due) {
        due.about("8: the user may not change the folder");
        for (int rights = 0; rights < 16; rights++) {
            Inodery x = new Inodery();
            x.folder(1, 0);
            x.file(101, 0);
            x.file(102, 0);
            x.file(103, 0);
            x.own(1, 1);
            x.rights(1, rights);
            removedBy(due, x, 1, (rights & 4) != 0);
            removedBy(due, x, 2, (rights & 1) != 0);
            x.user(0);
            due.isTrue(x.remove(103));
        }
        due.about("8: no such thing comes ahead of what the user may not");
        Inodery y = new Inodery();
        y.rights(0, 0);
        y.user(1);
        due.fails(Due.INDEX, () -> y.remove(1));
    }

    private static void removedBy(Due due, Inodery x, int user, boolean isAllowed) {
        x.user(user);
        if (isAllowed) {
            due.isTrue(x.remove(100 + user));
        } else {
            due.fails(Due.STATE, () -> x.remove(100 + user));
        }
    }
}

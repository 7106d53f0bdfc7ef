/** Promises 1 to 8 and 11: a new object, the user, and what gives, changes, takes and follows names. */
public final class NamesTest {
    public static void main(String[] args) {
        Due due = new Due("NamesTest");
        newObject(due);
        users(due);
        files(due);
        foldersAndLimits(due);
        links(due);
        walks(due);
        linkLimit(due);
        hardNames(due);
        renames(due);
        renamesRefused(due);
        renameOfFolders(due);
        renameOfTheSame(due);
        removes(due);
        numbersOfThings(due);
        due.end();
    }

    private static void newObject(Due due) {
        due.about("new object");
        Inodery x = new Inodery();
        due.is(Inodery.FOLDER, () -> x.about(0, 0));
        due.is(0, () -> x.about(0, 1));
        due.is(15, () -> x.about(0, 2));
        due.is(0, () -> x.about(0, 3));
        due.is(0, () -> x.about(0, 4));
        for (int thing = 1; thing < 32; thing++) {
            int each = thing;
            due.fails(Due.INDEX, () -> x.about(each, 0));
        }
        for (int block = 0; block < 64; block++) {
            due.isTrue(x.isFree(block));
            due.isFalse(x.bad(block, false));
            int each = block;
            due.is(0, () -> x.number(each));
        }
        for (int user = 0; user < 4; user++) {
            int each = user;
            due.is(0, () -> x.used(each));
            due.is(64, () -> x.quota(each, 64));
        }
        due.is(0, () -> x.user(0));
        due.is(0, () -> x.dirty());
        due.fails(Due.INDEX, () -> x.lockOf(0, 0));
        due.fails(Due.INDEX, () -> x.drop(0));
        due.is(1, () -> x.file(1, 15));
        due.is(0, () -> x.crash());
        due.fails(Due.INDEX, () -> x.about(1, 0));
        due.is(Inodery.FOLDER, () -> x.about(0, 0));
        due.is(0, () -> x.about(0, 4));
    }

    private static void users(Due due) {
        due.about("user");
        Inodery x = new Inodery();
        due.is(0, () -> x.user(3));
        due.is(3, () -> x.user(1));
        due.fails(Due.INDEX, () -> x.user(4));
        due.fails(Due.INDEX, () -> x.user(-1));
        due.is(1, () -> x.user(1));
        due.is(1, () -> x.file(1, 15));
        due.is(1, () -> x.about(1, 1));
        x.commit();
        x.crash();
        due.is(1, () -> x.user(0));
    }

    private static void files(Due due) {
        due.about("file");
        Inodery x = new Inodery();
        due.is(1, () -> x.file(7, 9));
        due.is(Inodery.FILE, () -> x.about(1, 0));
        due.is(9, () -> x.about(1, 2));
        due.is(1, () -> x.about(1, 3));
        due.is(0, () -> x.about(1, 4));
        due.is(107, () -> x.entry(0, 0));
        due.is(2, () -> x.file(99, 0));
        due.fails(Due.ARGUMENT, () -> x.file(0, 15));
        due.fails(Due.ARGUMENT, () -> x.file(-1, 15));
        due.fails(Due.ARGUMENT, () -> x.file(100000000, 15));
        due.fails(Due.INDEX, () -> x.file(99999999, 15));
        due.fails(Due.ARGUMENT, () -> x.file(8, 16));
        due.fails(Due.ARGUMENT, () -> x.file(8, -1));
        due.fails(Due.ARGUMENT, () -> x.file(500, 16));
        due.fails(Due.INDEX, () -> x.file(500, 15));
        due.fails(Due.INDEX, () -> x.file(505, 15));
        due.fails(Due.INDEX, () -> x.file(705, 15));
        due.fails(Due.INDEX, () -> x.file(10005, 15));
        due.fails(Due.STATE, () -> x.file(7, 15));
        due.is(2, () -> x.about(0, 4));
        x.rights(0, 14);
        x.user(1);
        due.fails(Due.STATE, () -> x.file(8, 15));
        due.fails(Due.STATE, () -> x.folder(8, 15));
        due.fails(Due.STATE, () -> x.link(8, 1));
        x.user(0);
        x.rights(0, 1);
        x.user(1);
        due.is(3, () -> x.file(8, 15));
        due.is(1, () -> x.about(3, 1));
    }

    private static void foldersAndLimits(Due due) {
        due.about("folder");
        Inodery x = new Inodery();
        due.is(1, () -> x.folder(1, 6));
        due.is(Inodery.FOLDER, () -> x.about(1, 0));
        due.is(6, () -> x.about(1, 2));
        due.is(2, () -> x.folder(102, 15));
        due.is(3, () -> x.folder(10203, 15));
        due.is(4, () -> x.file(1020304, 15));
        due.is(4, () -> x.look(1020304, false));
        due.fails(Due.ARGUMENT, () -> x.folder(0, 15));
        due.fails(Due.ARGUMENT, () -> x.folder(100000000, 15));
        due.fails(Due.ARGUMENT, () -> x.folder(2, 16));
        due.fails(Due.INDEX, () -> x.folder(100, 15));
        due.fails(Due.INDEX, () -> x.folder(1020305 + 4000000, 15));
        due.fails(Due.INDEX, () -> x.folder(2 + 100 * 50, 15));
        due.fails(Due.STATE, () -> x.folder(102, 15));
        for (int name = 2; name <= 8; name++) {
            int each = name;
            due.is(each + 3, () -> x.folder(each, 15));
        }
        due.is(8, () -> x.about(0, 4));
        due.fails(Due.STATE, () -> x.folder(9, 15));
        due.fails(Due.STATE, () -> x.file(9, 15));
        due.fails(Due.STATE, () -> x.link(9, 15));
        for (int thing = 12; thing < 32; thing++) {
            int path = 201 + 100 * ((thing - 12) / 7) + (thing - 12) % 7;
            int each = thing;
            due.is(each, () -> x.file(path, 15));
        }
        due.fails(Due.STATE, () -> x.file(801, 15));
        due.fails(Due.STATE, () -> x.folder(801, 15));
        due.fails(Due.STATE, () -> x.link(801, 15));
        due.isTrue(x.remove(204));
        due.is(15, () -> x.folder(801, 15));
        due.fails(Due.STATE, () -> x.file(802, 15));
    }

    private static void links(Due due) {
        due.about("link");
        Inodery x = new Inodery();
        due.is(1, () -> x.link(1, 99999999));
        due.is(Inodery.LINK, () -> x.about(1, 0));
        due.is(15, () -> x.about(1, 2));
        due.is(1, () -> x.about(1, 3));
        due.is(0, () -> x.about(1, 4));
        due.is(99999999, () -> x.target(1));
        due.is(2, () -> x.link(2, 0));
        due.is(0, () -> x.target(2));
        due.is(0, () -> x.look(2, true));
        due.is(2, () -> x.look(2, false));
        due.fails(Due.ARGUMENT, () -> x.link(3, -1));
        due.fails(Due.ARGUMENT, () -> x.link(3, 100000000));
        due.fails(Due.ARGUMENT, () -> x.link(0, 1));
        due.fails(Due.ARGUMENT, () -> x.link(100000000, 1));
        due.fails(Due.INDEX, () -> x.link(300, 1));
        due.fails(Due.INDEX, () -> x.link(103, 1));
        due.fails(Due.STATE, () -> x.link(1, 1));
        due.fails(Due.STATE, () -> x.file(1, 1));
        x.user(2);
        due.is(3, () -> x.link(3, 1));
        due.is(2, () -> x.about(3, 1));
        due.is(4, () -> x.file(204, 15));
        due.is(4, () -> x.look(4, true));
        due.is(404, () -> x.entry(0, 3));
    }

    private static void walks(Due due) {
        due.about("look");
        Inodery x = new Inodery();
        x.folder(1, 0);
        x.folder(102, 0);
        x.file(10203, 0);
        x.link(4, 102);
        x.link(104, 4);
        x.link(5, 10203);
        x.link(6, 100);
        x.link(7, 5);
        due.is(0, () -> x.look(0, true));
        due.is(0, () -> x.look(0, false));
        due.is(3, () -> x.look(10203, true));
        due.is(3, () -> x.look(403, false));
        due.is(3, () -> x.look(10403, true));
        due.is(2, () -> x.look(104, true));
        due.is(5, () -> x.look(104, false));
        due.is(3, () -> x.look(7, true));
        due.is(8, () -> x.look(7, false));
        due.fails(Due.INDEX, () -> x.look(6, true));
        due.is(7, () -> x.look(6, false));
        due.fails(Due.INDEX, () -> x.look(603, true));
        due.fails(Due.INDEX, () -> x.look(503, true));
        due.fails(Due.INDEX, () -> x.look(1020303, true));
        due.fails(Due.INDEX, () -> x.look(8, true));
        due.fails(Due.INDEX, () -> x.look(100, true));
        due.fails(Due.INDEX, () -> x.look(10002, true));
        due.fails(Due.INDEX, () -> x.look(1020300, false));
        due.fails(Due.ARGUMENT, () -> x.look(-1, true));
        due.fails(Due.ARGUMENT, () -> x.look(100000000, true));
        x.user(3);
        due.is(3, () -> x.look(10203, true));
    }

    private static void linkLimit(Due due) {
        due.about("four links");
        Inodery x = new Inodery();
        x.link(1, 2);
        x.link(2, 3);
        x.link(3, 4);
        x.link(4, 5);
        x.folder(5, 15);
        due.is(5, () -> x.look(1, true));
        due.is(6, () -> x.file(106, 15));
        x.link(10, 1);
        due.fails(Due.INDEX, () -> x.look(10, true));
        due.fails(Due.INDEX, () -> x.file(1007, 15));
        due.fails(Due.INDEX, () -> x.look(1006, false));
        due.is(7, () -> x.look(10, false));
        due.is(6, () -> x.look(206, false));
        x.link(501, 506);
        due.is(6, () -> x.look(201, true));
        due.is(8, () -> x.look(101, false));
        due.fails(Due.INDEX, () -> x.look(101, true));
        x.link(11, 11);
        due.fails(Due.INDEX, () -> x.look(11, true));
        due.is(9, () -> x.look(11, false));

        due.about("long paths of links");
        Inodery y = new Inodery();
        y.folder(1, 15);
        deepen(due, y, 1, 1);
        for (int i = 2; i <= 5; i++) {
            y.link(i, (i - 1) * 1000000 + 10101);
            deepen(due, y, i, 4 * i - 3);
        }
        due.is(20, () -> y.look(5010101, true));
        due.is(19, () -> y.look(50101, true));
        y.link(6, 5010101);
        due.fails(Due.INDEX, () -> y.look(6, true));
        due.fails(Due.INDEX, () -> y.look(5010102, true));
    }

    /** Makes three folders, each in the one ahead of it, the first one in the folder of a name in the root. */
    private static void deepen(Due due, Inodery y, int name, int before) {
        due.is(before + 1, () -> y.folder(name * 100 + 1, 15));
        due.is(before + 2, () -> y.folder(name * 10000 + 101, 15));
        due.is(before + 3, () -> y.folder(name * 1000000 + 10101, 15));
    }

    private static void hardNames(Due due) {
        due.about("hard");
        Inodery x = new Inodery();
        x.folder(1, 15);
        x.file(2, 15);
        x.link(3, 2);
        due.is(2, () -> x.hard(2, 102));
        due.is(2, () -> x.look(102, false));
        due.is(2, () -> x.about(2, 3));
        due.is(3, () -> x.hard(2, 4));
        due.is(2, () -> x.hard(3, 5));
        due.is(3, () -> x.look(5, false));
        due.fails(Due.STATE, () -> x.hard(1, 6));
        due.fails(Due.STATE, () -> x.hard(2, 102));
        due.fails(Due.STATE, () -> x.hard(2, 2));
        due.fails(Due.INDEX, () -> x.hard(6, 7));
        due.fails(Due.INDEX, () -> x.hard(6, 2));
        due.fails(Due.INDEX, () -> x.hard(2, 607));
        due.fails(Due.INDEX, () -> x.hard(2, 600));
        due.fails(Due.INDEX, () -> x.hard(2, 100));
        due.fails(Due.INDEX, () -> x.hard(1, 100));
        due.fails(Due.ARGUMENT, () -> x.hard(0, 6));
        due.fails(Due.ARGUMENT, () -> x.hard(2, 0));
        due.fails(Due.ARGUMENT, () -> x.hard(2, -5));
        due.fails(Due.ARGUMENT, () -> x.hard(100000000, 6));
        due.fails(Due.ARGUMENT, () -> x.hard(9, 100000000));
        due.is(3, () -> x.about(2, 3));
        x.rights(1, 4);
        x.user(1);
        due.fails(Due.STATE, () -> x.hard(2, 103));
        due.is(4, () -> x.hard(102, 6));
        x.user(0);
        x.file(7, 15);
        x.file(8, 15);
        due.fails(Due.STATE, () -> x.hard(2, 9));
        due.is(8, () -> x.about(0, 4));
        due.isFalse(x.remove(2));
        due.isFalse(x.remove(4));
        due.isFalse(x.remove(6));
        due.is(1, () -> x.about(2, 3));
        due.isTrue(x.remove(102));
        due.isFalse(x.remove(3));
        due.isTrue(x.remove(5));
    }

    private static void renames(Due due) {
        due.about("rename");
        Inodery x = new Inodery();
        x.folder(1, 15);
        x.file(2, 15);
        x.file(3, 15);
        x.link(4, 2);
        due.is(2, () -> x.rename(2, 102));
        due.fails(Due.INDEX, () -> x.look(2, false));
        due.is(2, () -> x.look(102, false));
        due.is(1, () -> x.about(2, 3));
        due.is(2, () -> x.rename(102, 3));
        due.fails(Due.INDEX, () -> x.about(3, 0));
        due.is(2, () -> x.look(3, false));
        due.is(0, () -> x.about(1, 4));
        due.is(4, () -> x.rename(4, 3));
        due.fails(Due.INDEX, () -> x.about(2, 0));
        due.is(2, () -> x.file(5, 15));
        due.is(2, () -> x.hard(5, 6));
        due.is(4, () -> x.rename(3, 6));
        due.is(1, () -> x.about(2, 3));
        due.is(2, () -> x.rename(5, 6));
        due.fails(Due.INDEX, () -> x.about(4, 0));
        due.is(101, () -> x.entry(0, 0));
        due.is(206, () -> x.entry(0, 1));
        due.is(2, () -> x.about(0, 4));
    }

    private static void renamesRefused(Due due) {
        due.about("rename refused");
        Inodery x = new Inodery();
        x.folder(1, 15);
        x.file(2, 15);
        x.file(3, 15);
        due.fails(Due.ARGUMENT, () -> x.rename(0, 5));
        due.fails(Due.ARGUMENT, () -> x.rename(2, 0));
        due.fails(Due.ARGUMENT, () -> x.rename(-2, 3));
        due.fails(Due.ARGUMENT, () -> x.rename(100000000, 3));
        due.fails(Due.ARGUMENT, () -> x.rename(9, 100000000));
        due.fails(Due.INDEX, () -> x.rename(9, 3));
        due.fails(Due.INDEX, () -> x.rename(200, 3));
        due.fails(Due.INDEX, () -> x.rename(2, 905));
        due.fails(Due.INDEX, () -> x.rename(2, 205));
        due.fails(Due.INDEX, () -> x.rename(2, 100));
        due.fails(Due.INDEX, () -> x.rename(1, 900));
        for (int name = 1; name <= 8; name++) {
            x.link(100 + name, 1);
        }
        due.fails(Due.STATE, () -> x.rename(2, 109));
        due.is(11, () -> x.rename(108, 109));
        due.is(2, () -> x.rename(2, 109));
        due.fails(Due.INDEX, () -> x.about(11, 0));
        x.rights(0, 14);
        x.user(1);
        due.fails(Due.STATE, () -> x.rename(3, 101));
        due.fails(Due.STATE, () -> x.rename(101, 3));
        due.fails(Due.STATE, () -> x.rename(3, 4));
        due.is(5, () -> x.rename(102, 101));
        x.user(0);
        x.rights(0, 15);
        x.rights(1, 14);
        x.user(1);
        due.fails(Due.STATE, () -> x.rename(3, 101));
        due.fails(Due.STATE, () -> x.rename(101, 3));
        due.fails(Due.STATE, () -> x.rename(101, 110));
        due.is(3, () -> x.rename(3, 4));
        due.is(7, () -> x.about(1, 4));
    }

    private static void renameOfFolders(Due due) {
        due.about("rename of folders");
        Inodery x = new Inodery();
        x.folder(1, 15);
        x.folder(102, 15);
        x.folder(10203, 15);
        x.link(4, 102);
        x.file(5, 15);
        x.folder(6, 15);
        due.fails(Due.STATE, () -> x.rename(1, 107));
        due.fails(Due.STATE, () -> x.rename(1, 10207));
        due.fails(Due.STATE, () -> x.rename(1, 1020307));
        due.fails(Due.STATE, () -> x.rename(1, 407));
        due.fails(Due.STATE, () -> x.rename(102, 10203));
        due.fails(Due.STATE, () -> x.rename(1, 5));
        due.fails(Due.STATE, () -> x.rename(1, 4));
        due.fails(Due.STATE, () -> x.rename(6, 1));
        due.fails(Due.STATE, () -> x.rename(5, 6));
        due.fails(Due.STATE, () -> x.rename(4, 6));
        due.fails(Due.STATE, () -> x.rename(5, 1));
        due.fails(Due.STATE, () -> x.rename(10203, 102));
        due.is(1, () -> x.rename(1, 6));
        due.fails(Due.INDEX, () -> x.about(6, 0));
        due.is(3, () -> x.look(60203, true));
        due.is(3, () -> x.rename(60203, 1));
        due.is(1, () -> x.rename(6, 101));
        due.is(2, () -> x.look(10102, true));
        due.is(1, () -> x.about(1, 3));
        due.is(6, () -> x.folder(7, 15));
        due.is(4, () -> x.rename(4, 104));
        due.fails(Due.INDEX, () -> x.look(104, true));
    }

    private static void renameOfTheSame(Due due) {
        due.about("rename of the same");
        Inodery x = new Inodery();
        x.file(2, 0);
        x.hard(2, 3);
        x.folder(4, 0);
        x.link(5, 0);
        x.rights(0, 0);
        x.user(1);
        due.is(1, () -> x.rename(2, 3));
        due.is(1, () -> x.rename(2, 2));
        due.is(2, () -> x.rename(4, 4));
        due.is(2, () -> x.rename(4, 504));
        due.is(4, () -> x.about(0, 4));
        due.is(2, () -> x.about(1, 3));
        due.is(1, () -> x.look(2, true));
        due.fails(Due.STATE, () -> x.rename(2, 6));
    }

    private static void removes(Due due) {
        due.about("remove");
        Inodery x = new Inodery();
        x.folder(1, 15);
        x.file(102, 15);
        x.link(3, 1);
        due.fails(Due.ARGUMENT, () -> x.remove(0));
        due.fails(Due.ARGUMENT, () -> x.remove(-3));
        due.fails(Due.ARGUMENT, () -> x.remove(100000000));
        due.fails(Due.INDEX, () -> x.remove(9));
        due.fails(Due.INDEX, () -> x.remove(100));
        due.fails(Due.INDEX, () -> x.remove(10203));
        due.fails(Due.STATE, () -> x.remove(1));
        due.isTrue(x.remove(302));
        due.isTrue(x.remove(3));
        due.is(1, () -> x.look(1, false));
        x.rights(0, 14);
        x.user(2);
        due.fails(Due.STATE, () -> x.remove(1));
        x.user(0);
        due.isTrue(x.remove(1));
        due.fails(Due.INDEX, () -> x.about(1, 0));
        due.is(0, () -> x.about(0, 4));

        due.about("remove of an open one");
        Inodery y = new Inodery();
        y.file(1, 15);
        y.open(1, true);
        y.open(1, false);
        y.write(0, 0, 9);
        due.isFalse(y.remove(1));
        due.is(0, () -> y.about(1, 3));
        due.is(9, () -> y.read(1, 0));
        due.fails(Due.INDEX, () -> y.open(1, true));
        due.is(2, () -> y.file(1, 15));
        due.isFalse(y.close(0));
        due.is(1, () -> y.dirty());
        due.is(1, () -> y.used(0));
        due.isFalse(y.close(1));
        due.fails(Due.INDEX, () -> y.about(1, 0));
        due.is(0, () -> y.dirty());
        due.is(0, () -> y.used(0));
        due.isTrue(y.isFree(16));

        due.about("rename over an open one");
        Inodery z = new Inodery();
        z.file(1, 15);
        z.file(2, 15);
        z.open(1, true);
        z.write(0, 3, 7);
        due.is(2, () -> z.rename(2, 1));
        due.is(0, () -> z.about(1, 3));
        due.is(7, () -> z.read(0, 3));
        due.isFalse(z.close(0));
        due.fails(Due.INDEX, () -> z.about(1, 0));
    }

    private static void numbersOfThings(Due due) {
        due.about("numbers of things");
        Inodery x = new Inodery();
        due.is(1, () -> x.file(1, 1));
        due.is(2, () -> x.folder(2, 2));
        due.is(3, () -> x.link(3, 3));
        due.isTrue(x.remove(2));
        due.is(2, () -> x.link(4, 10));
        due.is(10, () -> x.target(2));
        due.isTrue(x.remove(1));
        due.is(1, () -> x.file(1, 3));
        due.is(Inodery.NONE, () -> x.target(1));
        x.commit();
        due.isTrue(x.remove(1));
        due.is(1, () -> x.folder(1, 3));
        due.is(0, () -> x.crash());
        due.is(Inodery.FILE, () -> x.about(1, 0));
    }
}

/** The edges that the document names of damage, the checker and what is asked: promises 30 to 39. */
public final class EdgesOfDamageTest {
    public static void main(String[] args) {
        Due due = new Due("EdgesOfDamageTest");
        damageArguments(due);
        damageOfCounts(due);
        damageOfPages(due);
        damageOfPagesRefused(due);
        damageOfEntries(due);
        checkRefused(due);
        checkPages(due);
        checkPagesOfAll(due);
        checkThings(due);
        checkManyThings(due);
        checkManyEntries(due);
        checkCounts(due);
        about(due);
        aboutOfEach(due);
        entry(due);
        target(due);
        page(due);
        numberAndIsFree(due);
        used(due);
        dirty(due);
        due.end();
    }

    private static void damageArguments(Due due) {
        due.about("30: what is out of range, ahead of all else");
        Inodery x = Disks.withFiles(1);
        due.outside(Due.ARGUMENT, 0, 2, what -> x.damage(what, 1, 0));
        due.outside(Due.ARGUMENT, 0, 2, what -> x.damage(what, 9, 9));
        due.about("30: there is no such thing, or, for 1, other");
        for (int what = 0; what <= 2; what++) {
            int each = what;
            due.outside(Due.INDEX, 0, 31, thing -> x.damage(each, thing, 1));
            due.fails(Due.INDEX, () -> x.damage(each, 2, 1));
            due.fails(Due.INDEX, () -> x.damage(each, 31, 31));
        }
        due.outside(Due.INDEX, 0, 31, other -> x.damage(1, 1, other));
        due.outside(Due.INDEX, 0, 31, other -> x.damage(1, 0, other));
        due.fails(Due.INDEX, () -> x.damage(1, 1, 2));
        due.about("30: other is told for 1 alone");
        for (int other : new int[] {Integer.MIN_VALUE, -1, 32, Integer.MAX_VALUE}) {
            x.damage(0, 1, other);
        }
        due.is(5, () -> x.about(1, 3));
        x.damage(2, 0, Integer.MAX_VALUE);
        due.is(0, () -> x.about(0, 4));
    }

    private static void damageOfCounts(Due due) {
        due.about("30: the count of names of a thing is 1 more than it was");
        Inodery x = Disks.withFiles(1);
        x.folder(2, 15);
        x.link(3, 0);
        for (int thing = 0; thing <= 3; thing++) {
            int each = thing;
            int before = x.about(thing, 3);
            x.damage(0, thing, 0);
            due.is(before + 1, () -> x.about(each, 3));
            x.damage(0, thing, 0);
            due.is(before + 2, () -> x.about(each, 3));
        }
        due.about("30: when the count comes to 0, as it is kept, it is gone");
        due.is(4, () -> x.hard(1, 4));
        due.isFalse(x.remove(1));
        due.isFalse(x.remove(4));
        due.is(2, () -> x.about(1, 3));
        due.isFalse(x.close(0));
        due.is(2, () -> x.about(1, 3));
        due.isFalse(x.remove(3));
        due.is(2, () -> x.about(3, 3));
        due.is(2, () -> x.about(0, 3));
        due.about("30: a folder has just one name");
        due.isTrue(x.remove(2));
        due.fails(Due.INDEX, () -> x.about(2, 3));
        due.is(201, () -> x.check());
        due.is(0, () -> x.about(0, 3));
    }

    private static void damageOfPages(Due due) {
        due.about("30: the page 0 has the block of that of another one, and is written");
        Inodery x = Disks.withFiles(2);
        x.ahead(1, 0, 0);
        x.damage(1, 1, 2);
        due.is(32, () -> x.page(1, 0, 1));
        due.is(Inodery.WRITTEN, () -> x.page(1, 0, 0));
        due.is(Inodery.AHEAD, () -> x.page(2, 0, 0));
        due.about("30: what was dirty of it is let go, not that of the other one");
        x.write(0, 0, 5);
        x.write(1, 0, 6);
        x.write(0, 1, 7);
        x.damage(1, 1, 2);
        due.is(0, () -> x.page(1, 0, 2));
        due.is(1, () -> x.page(2, 0, 2));
        due.is(1, () -> x.page(1, 1, 2));
        due.is(2, () -> x.dirty());
        due.is(0, () -> x.read(0, 0));
        due.is(6, () -> x.read(1, 0));
        x.flush(512);
        due.is(6, () -> x.read(0, 0));
        due.about("30: the block that it had is free, if nothing else has it");
        x.cut(0, 0);
        due.is(16, () -> x.write(0, 0, 1));
        x.damage(1, 1, 2);
        due.isTrue(x.isFree(16));
        due.about("30: the other one stays when the one is cut");
        due.is(1, () -> x.cut(0, 0));
        due.isFalse(x.isFree(32));
        due.is(6, () -> x.read(1, 0));
        due.about("30: whatever the user may, and the quota tells");
        x.quota(0, 0);
        x.user(3);
        x.damage(1, 1, 2);
        due.is(2, () -> x.used(0));
    }

    private static void damageOfPagesRefused(Due due) {
        due.about("30: one is no file, both are the same, or the page 0 of other is a hole");
        Inodery x = Disks.withFiles(2);
        x.folder(3, 15);
        x.link(4, 1);
        x.write(1, 0, 5);
        x.ahead(0, 1, 15);
        for (int thing : new int[] {0, 3, 4}) {
            due.fails(Due.STATE, () -> x.damage(1, thing, 2));
            due.fails(Due.STATE, () -> x.damage(1, 2, thing));
            due.fails(Due.STATE, () -> x.damage(1, thing, thing));
        }
        due.fails(Due.STATE, () -> x.damage(1, 2, 2));
        due.fails(Due.STATE, () -> x.damage(1, 1, 1));
        due.fails(Due.STATE, () -> x.damage(1, 2, 1));
        due.is(Inodery.WRITTEN, () -> x.page(2, 0, 0));
        due.is(5, () -> x.read(1, 0));
        due.about("30: the page 0 of the one is a hole, which is no hindrance");
        x.damage(1, 1, 2);
        due.is(32, () -> x.page(1, 0, 1));
        due.about("30: a file without names is one");
        due.isFalse(x.remove(1));
        x.cut(0, 0);
        x.damage(1, 1, 2);
        due.is(32, () -> x.page(1, 0, 1));
    }

    private static void damageOfEntries(Due due) {
        due.about("30: it is no folder, or has no entry");
        Inodery x = new Inodery();
        due.fails(Due.STATE, () -> x.damage(2, 0, 0));
        x.folder(9, 15);
        x.file(10, 15);
        x.link(11, 9);
        due.fails(Due.STATE, () -> x.damage(2, 1, 0));
        due.fails(Due.STATE, () -> x.damage(2, 2, 0));
        due.fails(Due.STATE, () -> x.damage(2, 3, 0));
        due.about("30: the entry with the lowest name is gone without anything else");
        x.file(999, 15);
        x.file(901, 15);
        x.file(950, 15);
        x.damage(2, 1, 0);
        due.is(650, () -> x.entry(1, 0));
        due.is(2, () -> x.about(1, 4));
        due.is(1, () -> x.about(5, 3));
        x.damage(2, 1, 0);
        due.is(499, () -> x.entry(1, 0));
        x.damage(2, 1, 0);
        due.fails(Due.STATE, () -> x.damage(2, 1, 0));
        due.is(0, () -> x.about(1, 4));
        due.about("30: a full folder has room again");
        Inodery y = new Inodery();
        for (int name = 11; name <= 18; name++) {
            y.file(name, 15);
        }
        y.damage(2, 0, 0);
        due.is(9, () -> y.file(11, 15));
        due.fails(Due.STATE, () -> y.file(12, 15));
        due.is(911, () -> y.entry(0, 0));
    }

    private static void checkRefused(Due due) {
        due.about("31: a handle is open");
        Inodery x = Disks.withFiles(2);
        x.damage(0, 1, 0);
        x.open(1, false);
        due.fails(Due.STATE, () -> x.check());
        x.close(2);
        due.fails(Due.STATE, () -> x.check());
        x.close(1);
        due.fails(Due.STATE, () -> x.check());
        due.is(2, () -> x.about(1, 3));
        x.close(0);
        due.is(1, () -> x.check());
        due.is(1, () -> x.about(1, 3));
        due.is(0, () -> x.check());
        x.commit();
        x.open(2, false);
        due.fails(Due.STATE, () -> x.check());
        x.crash();
        due.is(0, () -> x.check());
        due.about("31: the last handle that there can be is open");
        for (int handle = 4; handle < 30; handle++) {
            x.open(1, false);
            if (handle < 29) x.close(handle);
        }
        due.fails(Due.STATE, () -> x.check());
        x.close(29);
        due.is(0, () -> x.check());
    }

    private static void checkPages(Due due) {
        due.about("31: a page whose block a page had ahead of it is a hole, by rising things");
        Inodery x = Disks.withFiles(3);
        x.write(0, 0, 5);
        x.damage(1, 2, 1);
        x.damage(1, 3, 2);
        for (int handle = 0; handle < 3; handle++) {
            x.close(handle);
        }
        due.is(3, () -> x.used(0));
        due.is(20000, () -> x.check());
        due.is(16, () -> x.page(1, 0, 1));
        due.is(Inodery.HOLE, () -> x.page(2, 0, 0));
        due.is(Inodery.NONE, () -> x.page(3, 0, 1));
        due.is(1, () -> x.used(0));
        due.is(0, () -> x.check());
        due.about("31: what was dirty of it is let go");
        Inodery z = Disks.withFiles(2);
        z.write(1, 0, 1);
        z.damage(1, 1, 2);
        z.write(0, 0, 2);
        z.write(1, 1, 3);
        z.close(0);
        z.close(1);
        due.is(3, () -> z.dirty());
        due.is(10000, () -> z.check());
        due.is(2, () -> z.dirty());
        due.is(1, () -> z.page(1, 0, 2));
        due.is(0, () -> z.page(2, 0, 2));
        due.is(1, () -> z.page(2, 1, 2));
        due.is(2, () -> z.commit());
        due.is(2, () -> z.number(32));
    }

    private static void checkPagesOfAll(Due due) {
        due.about("31: as many pages as can be");
        Inodery x = Disks.withAllThings();
        x.open(308, true);
        due.is(48, () -> x.write(0, 0, 5));
        for (int thing = 8; thing < 31; thing++) {
            x.damage(1, thing, 31);
        }
        x.close(0);
        due.is(24, () -> x.used(0));
        due.is(230000, () -> x.check());
        due.is(1, () -> x.used(0));
        due.is(48, () -> x.page(8, 0, 1));
        due.is(Inodery.HOLE, () -> x.page(31, 0, 0));
        due.is(0, () -> x.dirty());
    }

    private static void checkThings(Due due) {
        due.about("31: things, but the root, that cannot be reached from the root by entries are gone");
        Inodery x = Disks.withFiles(1);
        x.folder(2, 15);
        x.folder(203, 15);
        x.file(20304, 15);
        x.link(5, 203);
        x.hard(1, 20306);
        x.bad(16, true);
        x.write(0, 0, 1);
        x.flush(1);
        x.write(0, 1, 2);
        x.damage(2, 2, 0);
        x.damage(2, 0, 0);
        x.close(0);
        due.is(1, () -> x.dirty());
        due.is(300, () -> x.check());
        due.is(0, () -> x.dirty());
        due.isTrue(x.isFree(16));
        for (int thing : new int[] {1, 3, 4}) {
            due.fails(Due.INDEX, () -> x.about(thing, 0));
        }
        due.is(Inodery.LINK, () -> x.about(5, 0));
        due.fails(Due.INDEX, () -> x.look(5, true));
        due.is(0, () -> x.about(2, 4));
        due.about("31: what is reached by a link alone is not reached by entries");
        Inodery y = new Inodery();
        y.folder(1, 15);
        y.link(2, 1);
        y.damage(2, 0, 0);
        due.is(100, () -> y.check());
        due.fails(Due.INDEX, () -> y.about(1, 0));
        due.about("31: the root is always there, without any entry");
        y.damage(2, 0, 0);
        due.is(100, () -> y.check());
        due.is(0, () -> y.check());
        due.is(Inodery.FOLDER, () -> y.about(0, 0));
    }

    private static void checkManyThings(Due due) {
        due.about("31: all things but the root are gone");
        Inodery x = Disks.withAllThings();
        for (int i = 0; i < 7; i++) {
            x.damage(2, 0, 0);
        }
        due.fails(Due.STATE, () -> x.file(1, 15));
        due.is(3100, () -> x.check());
        due.is(0, () -> x.check());
        due.is(1, () -> x.file(1, 15));
        due.about("31: what is below four folders and more");
        Inodery y = new Inodery();
        y.folder(1, 15);
        y.folder(102, 15);
        y.folder(10203, 15);
        y.folder(1020304, 15);
        y.link(5, 1020304);
        y.file(506, 15);
        due.is(0, () -> y.check());
        due.is(6, () -> y.look(506, false));
        y.damage(2, 1, 0);
        due.is(400, () -> y.check());
        due.is(2, () -> y.about(0, 4));
    }

    private static void checkManyEntries(Due due) {
        due.about("31: there are more entries than there can be things");
        Inodery x = new Inodery();
        x.file(8, 15);
        for (int name = 1; name <= 7; name++) {
            x.folder(name, 15);
        }
        for (int i = 0; i < 48; i++) {
            x.hard(8, 101 + 100 * (i / 8) + i % 8);
        }
        x.folder(701, 15);
        x.file(70109, 15);
        due.is(49, () -> x.about(1, 3));
        due.is(0, () -> x.check());
        due.is(10, () -> x.look(70109, false));
        x.damage(2, 0, 0);
        due.is(101, () -> x.check());
        due.is(41, () -> x.about(1, 3));
        due.is(10, () -> x.look(70109, false));
    }

    private static void checkCounts(Due due) {
        due.about("31: then counts of names are right");
        Inodery x = new Inodery();
        x.folder(1, 15);
        x.file(102, 15);
        x.hard(102, 3);
        x.hard(102, 4);
        x.link(5, 0);
        x.damage(0, 2, 0);
        x.damage(0, 2, 0);
        x.damage(0, 3, 0);
        x.damage(0, 1, 0);
        x.damage(0, 0, 0);
        due.is(5, () -> x.about(2, 3));
        due.is(4, () -> x.check());
        due.is(3, () -> x.about(2, 3));
        due.is(1, () -> x.about(3, 3));
        due.is(1, () -> x.about(1, 3));
        due.is(0, () -> x.about(0, 3));
        due.about("31: counts of what is gone are not among them");
        x.damage(0, 1, 0);
        x.damage(2, 0, 0);
        due.is(101, () -> x.check());
        due.is(2, () -> x.about(2, 3));
        due.about("31: a count that an entry which is gone made wrong");
        x.damage(2, 0, 0);
        due.is(1, () -> x.check());
        due.is(1, () -> x.about(2, 3));
        due.isTrue(x.remove(4));
        due.about("31: mended, a thing is gone by its last name again");
        Inodery y = new Inodery();
        y.file(1, 15);
        y.damage(0, 1, 0);
        due.is(1, () -> y.check());
        due.isTrue(y.remove(1));
    }

    private static void about(Due due) {
        due.about("32: there is no such thing");
        Inodery x = new Inodery();
        due.outside(Due.INDEX, 0, 31, thing -> x.about(thing, 0));
        due.outside(Due.INDEX, 0, 31, thing -> x.about(thing, 7));
        due.fails(Due.INDEX, () -> x.about(1, 0));
        due.fails(Due.INDEX, () -> x.about(31, 6));
        due.about("32: what is out of range");
        due.outside(Due.ARGUMENT, 0, 6, what -> x.about(0, what));
        due.about("32: the last thing that there can be, and what is gone");
        Inodery y = Disks.withAllThings();
        due.is(Inodery.FILE, () -> y.about(31, 0));
        due.fails(Due.INDEX, () -> y.about(32, 0));
        due.isTrue(y.remove(308));
        due.fails(Due.INDEX, () -> y.about(31, 0));
        due.about("32: 8 entries, and 7");
        due.is(8, () -> y.about(1, 4));
        due.is(7, () -> y.about(3, 4));
        due.is(0, () -> y.about(7, 4));
    }

    private static void aboutOfEach(Due due) {
        due.about("32: pages that are no holes, from none to all");
        Inodery x = Disks.withFiles(1);
        due.is(0, () -> x.about(1, 4));
        x.write(0, 15, 1);
        due.is(1, () -> x.about(1, 4));
        x.ahead(0, 0, 15);
        due.is(16, () -> x.about(1, 4));
        x.cut(0, 0);
        due.is(0, () -> x.about(1, 4));
        due.about("32: open handles of it");
        due.is(1, () -> x.about(1, 5));
        x.open(1, false);
        due.is(2, () -> x.about(1, 5));
        x.close(0);
        due.is(1, () -> x.about(1, 5));
        x.close(1);
        due.is(0, () -> x.about(1, 5));
        due.is(0, () -> x.about(0, 5));
        due.about("32: 1 if it has an error, otherwise 0");
        due.is(0, () -> x.about(1, 6));
        x.open(1, true);
        x.bad(16, true);
        x.write(2, 0, 1);
        x.commit();
        x.write(2, 0, 1);
        x.commit();
        due.is(1, () -> x.about(1, 6));
        x.sync(2);
        due.is(0, () -> x.about(1, 6));
        due.about("32: counts are told as they are kept");
        x.damage(0, 1, 0);
        due.is(2, () -> x.about(1, 3));
    }

    private static void entry(Due due) {
        due.about("33: there is no such thing, or entry");
        Inodery x = new Inodery();
        due.outside(Due.INDEX, 0, 31, thing -> x.entry(thing, 0));
        due.fails(Due.INDEX, () -> x.entry(0, 0));
        for (int name = 99; name > 91; name--) {
            x.file(name, 15);
        }
        due.outside(Due.INDEX, 0, 7, place -> x.entry(0, place));
        due.fails(Due.INDEX, () -> x.entry(1, 0));
        due.about("33: by rising names");
        for (int place = 0; place < 8; place++) {
            int each = place;
            due.is(100 * (8 - each) + 92 + each, () -> x.entry(0, each));
        }
        due.isTrue(x.remove(92));
        due.is(793, () -> x.entry(0, 0));
        due.fails(Due.INDEX, () -> x.entry(0, 7));
        due.is(8, () -> x.link(1, 0));
        due.is(801, () -> x.entry(0, 0));
        due.fails(Due.INDEX, () -> x.entry(8, 0));
    }

    private static void target(Due due) {
        due.about("34: there is no such thing");
        Inodery x = new Inodery();
        due.outside(Due.INDEX, 0, 31, thing -> x.target(thing));
        due.fails(Due.INDEX, () -> x.target(1));
        due.about("34: the path; NONE if it is none");
        x.link(1, 0);
        x.link(2, 99999999);
        x.file(3, 15);
        x.folder(4, 15);
        due.is(0, () -> x.target(1));
        due.is(99999999, () -> x.target(2));
        due.is(Inodery.NONE, () -> x.target(0));
        due.is(Inodery.NONE, () -> x.target(3));
        due.is(Inodery.NONE, () -> x.target(4));
        due.isTrue(x.remove(2));
        due.fails(Due.INDEX, () -> x.target(2));
        due.is(2, () -> x.file(2, 15));
        due.is(Inodery.NONE, () -> x.target(2));
    }

    private static void page(Due due) {
        due.about("35: there is no such thing or page, ahead of what is out of range");
        Inodery x = Disks.withFiles(1);
        due.outside(Due.INDEX, 0, 31, thing -> x.page(thing, 0, 0));
        due.outside(Due.INDEX, 0, 31, thing -> x.page(thing, 0, 3));
        due.fails(Due.INDEX, () -> x.page(2, 0, 0));
        due.outside(Due.INDEX, 0, 15, page -> x.page(1, page, 0));
        due.outside(Due.INDEX, 0, 15, page -> x.page(1, page, -1));
        due.about("35: what is out of range");
        due.outside(Due.ARGUMENT, 0, 2, what -> x.page(1, 0, what));
        due.outside(Due.ARGUMENT, 0, 2, what -> x.page(1, 15, what));
        due.about("35: what it is, its block or NONE, 1 if it is dirty");
        for (int page = 0; page <= 15; page += 15) {
            int each = page;
            due.is(Inodery.HOLE, () -> x.page(1, each, 0));
            due.is(Inodery.NONE, () -> x.page(1, each, 1));
            due.is(0, () -> x.page(1, each, 2));
            x.ahead(0, each, each);
            due.is(Inodery.AHEAD, () -> x.page(1, each, 0));
            due.is(each == 0 ? 16 : 17, () -> x.page(1, each, 1));
            due.is(0, () -> x.page(1, each, 2));
            x.write(0, each, 0);
            due.is(Inodery.WRITTEN, () -> x.page(1, each, 0));
            due.is(1, () -> x.page(1, each, 2));
            x.flush(1);
            due.is(Inodery.WRITTEN, () -> x.page(1, each, 0));
            due.is(0, () -> x.page(1, each, 2));
        }
    }

    private static void numberAndIsFree(Due due) {
        due.about("36, 37: there is no such block");
        Inodery x = Disks.withAllBlocks();
        due.outside(Due.INDEX, 0, 63, block -> x.number(block));
        due.outside(Due.INDEX, 0, 63, block -> x.isFree(block));
        due.about("37: no block is free, then all");
        for (int block = 0; block < 64; block++) {
            due.isFalse(x.isFree(block));
        }
        x.crash();
        for (int block = 0; block < 64; block++) {
            due.isTrue(x.isFree(block));
        }
        due.about("36: the number of a block, from 0 to 255, also of a free one");
        Inodery y = Disks.withFiles(4);
        y.ahead(2, 0, 15);
        y.write(2, 15, 255);
        y.write(3, 0, 1);
        due.is(0, () -> y.number(63));
        y.commit();
        due.is(255, () -> y.number(63));
        due.is(1, () -> y.number(0));
        y.cut(2, 15);
        y.cut(3, 0);
        y.commit();
        due.isTrue(y.isFree(63));
        due.is(255, () -> y.number(63));
        due.is(1, () -> y.number(0));
        due.about("37: a page of now, of what is committed, or of a snapshot has it");
        due.is(0, () -> y.write(3, 0, 1));
        due.isFalse(y.isFree(0));
        y.snapshot();
        y.cut(3, 0);
        due.isFalse(y.isFree(0));
        y.drop(0);
        due.isFalse(y.isFree(0));
        y.snapshot();
        due.isTrue(y.isFree(0));
    }

    private static void used(Due due) {
        due.about("38: there is no such user");
        Inodery x = Disks.withFiles(2);
        due.outside(Due.INDEX, 0, 3, user -> x.used(user));
        due.about("38: how many blocks a user has, of the state of now");
        for (int user = 0; user < 4; user++) {
            int each = user;
            due.is(0, () -> x.used(each));
            x.own(1, each);
            x.ahead(0, 0, 15);
            due.is(16, () -> x.used(each));
            x.cut(0, 0);
            due.is(0, () -> x.used(each));
        }
        x.write(0, 0, 1);
        x.snapshot();
        x.write(0, 0, 2);
        due.is(1, () -> x.used(3));
        x.cut(0, 0);
        due.is(0, () -> x.used(3));
        due.isFalse(x.isFree(16));
    }

    private static void dirty(Due due) {
        due.about("39: how many pages are dirty, from none to as many as there are blocks");
        Inodery x = Disks.withAllBlocks();
        due.is(0, () -> x.dirty());
        for (int i = 0; i < 64; i++) {
            int each = i;
            x.write(each / 16, each % 16, each);
            due.is(each + 1, () -> x.dirty());
        }
        x.write(0, 0, 1);
        due.is(64, () -> x.dirty());
        due.about("39: two pages that have one block are two");
        x.cut(1, 0);
        x.damage(1, 2, 1);
        due.is(48, () -> x.dirty());
        x.write(1, 0, 1);
        due.is(49, () -> x.dirty());
        due.is(48, () -> x.flush(48));
        due.is(1, () -> x.dirty());
        due.is(1, () -> x.crash());
        due.is(0, () -> x.dirty());
    }
}

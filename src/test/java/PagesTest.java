/** Promises 13 to 17: to close, write, read, tell ahead and cut, and where blocks are taken. */
public final class PagesTest {
    public static void main(String[] args) {
        Due due = new Due("PagesTest");
        writing(due);
        writingRefused(due);
        reading(due);
        placesOfBlocks(due);
        groupsAround(due);
        endOfGroup(due);
        fullDisk(due);
        aheads(due);
        aheadsRefused(due);
        cuts(due);
        closings(due);
        due.end();
    }

    private static void writing(Due due) {
        due.about("write");
        Inodery x = Disks.withFiles(1);
        due.is(16, () -> x.write(0, 0, 255));
        due.is(Inodery.WRITTEN, () -> x.page(1, 0, 0));
        due.is(16, () -> x.page(1, 0, 1));
        due.is(1, () -> x.page(1, 0, 2));
        due.is(0, () -> x.number(16));
        due.is(1, () -> x.dirty());
        due.is(16, () -> x.write(0, 0, 0));
        due.is(1, () -> x.dirty());
        due.is(0, () -> x.read(0, 0));
        due.is(17, () -> x.write(0, 15, 3));
        due.is(2, () -> x.about(1, 4));
        due.is(2, () -> x.commit());
        due.is(3, () -> x.number(17));
        due.is(16, () -> x.write(0, 0, 4));
        due.is(0, () -> x.number(16));
        due.is(4, () -> x.read(0, 0));
    }

    private static void writingRefused(Due due) {
        due.about("write refused");
        Inodery x = Disks.withFiles(1);
        x.open(1, false);
        due.fails(Due.INDEX, () -> x.write(2, 0, 1));
        due.fails(Due.INDEX, () -> x.write(-1, 0, 1));
        due.fails(Due.INDEX, () -> x.write(0, 16, 1));
        due.fails(Due.INDEX, () -> x.write(0, -1, 256));
        due.fails(Due.ARGUMENT, () -> x.write(0, 0, 256));
        due.fails(Due.ARGUMENT, () -> x.write(0, 0, -1));
        due.fails(Due.ARGUMENT, () -> x.write(1, 0, -1));
        due.fails(Due.STATE, () -> x.write(1, 0, 1));
        x.close(0);
        due.fails(Due.STATE, () -> x.write(0, 0, 1));
        due.fails(Due.ARGUMENT, () -> x.write(0, 0, 256));
        due.is(0, () -> x.dirty());
        due.is(0, () -> x.about(1, 4));
        due.is(2, () -> x.open(1, true));
        x.quota(0, 0);
        due.fails(Due.STATE, () -> x.write(2, 0, 1));
        due.is(0, () -> x.dirty());
    }

    private static void reading(Due due) {
        due.about("read");
        Inodery x = Disks.withFiles(1);
        x.open(1, false);
        due.is(0, () -> x.read(0, 0));
        x.ahead(0, 0, 0);
        due.is(0, () -> x.read(1, 0));
        x.write(0, 1, 77);
        due.is(77, () -> x.read(1, 1));
        x.commit();
        due.is(77, () -> x.read(1, 1));
        x.write(0, 1, 78);
        due.is(78, () -> x.read(1, 1));
        x.cut(0, 1);
        due.is(0, () -> x.read(1, 1));
        due.fails(Due.INDEX, () -> x.read(2, 0));
        due.fails(Due.INDEX, () -> x.read(-1, 0));
        due.fails(Due.INDEX, () -> x.read(0, 16));
        due.fails(Due.INDEX, () -> x.read(0, -1));
        x.close(0);
        due.fails(Due.STATE, () -> x.read(0, 0));
        due.fails(Due.INDEX, () -> x.read(0, 16));

        due.about("read of a page ahead on an old block");
        Inodery y = Disks.withFiles(1);
        y.write(0, 0, 9);
        y.flush(1);
        y.cut(0, 0);
        y.ahead(0, 0, 0);
        due.is(16, () -> y.page(1, 0, 1));
        due.is(9, () -> y.number(16));
        due.is(0, () -> y.read(0, 0));
        y.write(0, 0, 5);
        due.is(5, () -> y.read(0, 0));
    }

    private static void placesOfBlocks(Due due) {
        due.about("places of blocks");
        Inodery x = Disks.withFiles(5);
        due.is(16, () -> x.write(0, 3, 1));
        due.is(17, () -> x.write(0, 4, 1));
        due.is(18, () -> x.write(4, 0, 1));
        due.is(19, () -> x.write(0, 5, 1));
        due.is(20, () -> x.write(4, 1, 1));
        due.is(21, () -> x.write(0, 7, 1));
        due.is(22, () -> x.write(0, 6, 1));
        due.is(32, () -> x.write(1, 0, 1));
        due.is(48, () -> x.write(2, 0, 1));
        due.is(0, () -> x.write(3, 0, 1));
        due.is(1, () -> x.cut(2, 0));
        due.is(48, () -> x.write(2, 9, 1));
        due.is(23, () -> x.write(0, 8, 1));
        due.is(24, () -> x.write(4, 2, 1));
        due.is(25, () -> x.write(4, 4, 1));
        due.is(26, () -> x.write(4, 5, 1));
        due.is(6, () -> x.cut(0, 0));
        due.is(16, () -> x.write(0, 0, 1));
        due.is(17, () -> x.write(0, 2, 1));
        due.is(19, () -> x.write(0, 1, 1));
    }

    private static void groupsAround(Due due) {
        due.about("groups, round");
        Inodery x = Disks.withFiles(8);
        due.is(16, () -> x.ahead(2, 0, 15));
        due.is(48, () -> x.page(3, 0, 1));
        due.is(63, () -> x.page(3, 15, 1));
        due.is(0, () -> x.write(6, 0, 1));
        due.is(1, () -> x.write(6, 1, 1));
        due.is(2, () -> x.write(3, 0, 1));
        due.is(1, () -> x.cut(2, 15));
        due.is(63, () -> x.write(6, 3, 1));
        due.is(3, () -> x.write(6, 4, 1));
        due.is(12, () -> x.ahead(7, 0, 11));
        due.is(15, () -> x.page(8, 11, 1));
        due.is(16, () -> x.write(7, 12, 1));
        due.is(17, () -> x.write(7, 13, 1));
        due.is(18, () -> x.write(6, 5, 1));
    }

    private static void endOfGroup(Due due) {
        due.about("end of a group");
        Inodery x = Disks.withFiles(7);
        due.is(14, () -> x.ahead(2, 0, 13));
        due.is(62, () -> x.write(6, 0, 1));
        due.is(14, () -> x.cut(2, 0));
        due.is(63, () -> x.write(6, 1, 1));
        due.is(48, () -> x.write(6, 2, 1));
        due.is(15, () -> x.ahead(0, 0, 14));
        due.is(31, () -> x.write(4, 0, 1));
        due.is(15, () -> x.cut(0, 0));
        due.is(16, () -> x.write(4, 1, 1));
        due.is(17, () -> x.write(4, 2, 1));
        due.isTrue(x.isFree(32));
    }

    private static void fullDisk(Due due) {
        due.about("full disk");
        Inodery x = Disks.withFiles(5);
        for (int i = 0; i < 4; i++) {
            int each = i;
            due.is(16, () -> x.ahead(each, 0, 15));
        }
        due.fails(Due.STATE, () -> x.write(4, 0, 1));
        due.fails(Due.STATE, () -> x.ahead(4, 0, 0));
        x.own(5, 1);
        due.fails(Due.STATE, () -> x.write(4, 0, 1));
        due.fails(Due.STATE, () -> x.ahead(4, 0, 0));
        due.is(16, () -> x.write(0, 0, 1));
        x.snapshot();
        due.fails(Due.STATE, () -> x.write(0, 0, 2));
        due.is(1, () -> x.read(0, 0));
        due.is(1, () -> x.cut(2, 15));
        due.fails(Due.STATE, () -> x.write(4, 0, 1));
        x.drop(0);
        due.fails(Due.STATE, () -> x.write(4, 0, 1));
        x.commit();
        due.is(63, () -> x.write(4, 0, 1));
        due.is(16, () -> x.write(0, 0, 3));
        due.fails(Due.STATE, () -> x.ahead(4, 0, 1));
        due.is(1, () -> x.cut(3, 15));
        due.isFalse(x.isFree(15));
        x.commit();
        due.fails(Due.STATE, () -> x.ahead(4, 1, 2));
        due.is(Inodery.HOLE, () -> x.page(5, 1, 0));
        due.is(1, () -> x.ahead(4, 0, 1));
        due.is(15, () -> x.page(5, 1, 1));
    }

    private static void aheads(Due due) {
        due.about("ahead");
        Inodery x = Disks.withFiles(1);
        x.write(0, 2, 5);
        due.is(4, () -> x.ahead(0, 0, 4));
        due.is(Inodery.AHEAD, () -> x.page(1, 0, 0));
        due.is(17, () -> x.page(1, 0, 1));
        due.is(18, () -> x.page(1, 1, 1));
        due.is(Inodery.WRITTEN, () -> x.page(1, 2, 0));
        due.is(19, () -> x.page(1, 3, 1));
        due.is(20, () -> x.page(1, 4, 1));
        due.is(0, () -> x.page(1, 4, 2));
        due.is(Inodery.HOLE, () -> x.page(1, 5, 0));
        due.is(1, () -> x.dirty());
        due.is(0, () -> x.ahead(0, 0, 4));
        due.is(1, () -> x.ahead(0, 15, 15));
        due.is(18, () -> x.write(0, 1, 6));
        due.is(Inodery.WRITTEN, () -> x.page(1, 1, 0));
        due.is(Inodery.AHEAD, () -> x.page(1, 0, 0));
        due.is(6, () -> x.used(0));
        due.is(2, () -> x.commit());
        due.is(0, () -> x.number(17));
    }

    private static void aheadsRefused(Due due) {
        due.about("ahead refused");
        Inodery x = Disks.withFiles(1);
        x.open(1, false);
        due.fails(Due.INDEX, () -> x.ahead(2, 0, 0));
        due.fails(Due.INDEX, () -> x.ahead(0, -1, 0));
        due.fails(Due.INDEX, () -> x.ahead(0, 16, 16));
        due.fails(Due.INDEX, () -> x.ahead(0, 0, 16));
        due.fails(Due.INDEX, () -> x.ahead(0, 3, -1));
        due.fails(Due.ARGUMENT, () -> x.ahead(0, 3, 2));
        due.fails(Due.ARGUMENT, () -> x.ahead(1, 3, 2));
        due.fails(Due.STATE, () -> x.ahead(1, 3, 3));
        x.quota(0, 3);
        due.fails(Due.STATE, () -> x.ahead(0, 0, 3));
        due.is(0, () -> x.about(1, 4));
        due.is(3, () -> x.ahead(0, 0, 2));
        x.close(0);
        due.fails(Due.STATE, () -> x.ahead(0, 0, 2));
        due.fails(Due.ARGUMENT, () -> x.ahead(0, 3, 2));
    }

    private static void cuts(Due due) {
        due.about("cut");
        Inodery x = Disks.withFiles(1);
        x.open(1, false);
        x.write(0, 0, 1);
        x.write(0, 1, 2);
        x.ahead(0, 2, 3);
        x.write(0, 15, 9);
        due.is(4, () -> x.cut(0, 1));
        due.is(1, () -> x.dirty());
        due.is(Inodery.WRITTEN, () -> x.page(1, 0, 0));
        due.is(Inodery.HOLE, () -> x.page(1, 1, 0));
        due.is(Inodery.NONE, () -> x.page(1, 1, 1));
        due.is(0, () -> x.page(1, 1, 2));
        due.is(Inodery.HOLE, () -> x.page(1, 15, 0));
        due.isTrue(x.isFree(17));
        due.is(1, () -> x.used(0));
        due.is(0, () -> x.cut(0, 1));
        due.fails(Due.INDEX, () -> x.cut(2, 0));
        due.fails(Due.INDEX, () -> x.cut(0, 16));
        due.fails(Due.INDEX, () -> x.cut(0, -1));
        due.fails(Due.STATE, () -> x.cut(1, 0));
        due.is(1, () -> x.cut(0, 0));
        due.is(0, () -> x.dirty());
        x.close(0);
        due.fails(Due.STATE, () -> x.cut(0, 0));
        due.fails(Due.INDEX, () -> x.cut(0, 16));
    }

    private static void closings(Due due) {
        due.about("close");
        Inodery x = Disks.withFiles(2);
        x.open(1, false);
        x.bad(16, true);
        x.write(0, 0, 1);
        x.flush(1);
        due.is(1, () -> x.about(1, 6));
        due.isFalse(x.close(1));
        due.isTrue(x.close(2));
        due.is(0, () -> x.about(1, 6));
        due.is(1, () -> x.about(1, 5));
        due.isFalse(x.close(0));
        due.fails(Due.STATE, () -> x.close(0));
        due.fails(Due.INDEX, () -> x.close(3));
        due.fails(Due.INDEX, () -> x.close(-1));

        due.about("close of one without names");
        Inodery y = Disks.withFiles(1);
        y.bad(16, true);
        y.write(0, 0, 1);
        y.commit();
        due.isFalse(y.remove(1));
        y.write(0, 1, 2);
        due.isTrue(y.close(0));
        due.fails(Due.INDEX, () -> y.about(1, 0));
        due.is(0, () -> y.dirty());
        due.isFalse(y.isFree(16));
        due.isTrue(y.isFree(17));
        y.file(5, 15);
        due.is(0, () -> y.about(1, 6));
        due.is(Inodery.HOLE, () -> y.page(1, 0, 0));
    }
}

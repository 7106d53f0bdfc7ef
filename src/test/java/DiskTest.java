/** Promises 21 to 27 and 29: flushing, committing, crashes, snapshots and bad blocks. */
public final class DiskTest {
    public static void main(String[] args) {
        Due due = new Due("DiskTest");
        flushes(due);
        badBlocks(due);
        firstAndLastBlock(due);
        syncs(due);
        commits(due);
        crashes(due);
        crashesOfNameless(due);
        crashesOfNames(due);
        crashesOfMuch(due);
        snapshots(due);
        snapshotNumbers(due);
        sharedBlocks(due);
        drops(due);
        oldReads(due);
        oldPaths(due);
        due.end();
    }

    private static void flushes(Due due) {
        due.about("flush");
        Inodery x = Disks.withFiles(2);
        x.write(1, 0, 10);
        x.write(0, 3, 11);
        x.write(0, 1, 12);
        x.write(1, 5, 13);
        due.fails(Due.ARGUMENT, () -> x.flush(0));
        due.fails(Due.ARGUMENT, () -> x.flush(-1));
        due.fails(Due.ARGUMENT, () -> x.flush(513));
        due.is(4, () -> x.dirty());
        due.is(1, () -> x.flush(1));
        due.is(12, () -> x.number(x.page(1, 1, 1)));
        due.is(0, () -> x.page(1, 1, 2));
        due.is(1, () -> x.page(1, 3, 2));
        due.is(2, () -> x.flush(2));
        due.is(11, () -> x.number(x.page(1, 3, 1)));
        due.is(10, () -> x.number(32));
        due.is(0, () -> x.number(33));
        due.is(1, () -> x.flush(512));
        due.is(13, () -> x.number(33));
        due.is(0, () -> x.flush(512));
        due.is(Inodery.WRITTEN, () -> x.page(2, 5, 0));
        due.is(4, () -> x.about(1, 4) + x.about(2, 4));
        x.crash();
        due.fails(Due.INDEX, () -> x.about(1, 0));
        due.is(10, () -> x.number(32));
    }

    private static void badBlocks(Due due) {
        due.about("bad");
        Inodery x = Disks.withFiles(2);
        due.isFalse(x.bad(16, true));
        due.isTrue(x.bad(16, true));
        due.fails(Due.INDEX, () -> x.bad(64, true));
        due.fails(Due.INDEX, () -> x.bad(-1, true));
        due.is(16, () -> x.write(0, 0, 5));
        due.is(32, () -> x.write(1, 0, 6));
        due.is(0, () -> x.about(1, 6));
        due.is(2, () -> x.commit());
        due.is(0, () -> x.dirty());
        due.is(0, () -> x.number(16));
        due.is(0, () -> x.read(0, 0));
        due.is(6, () -> x.read(1, 0));
        due.is(1, () -> x.about(1, 6));
        due.is(0, () -> x.about(2, 6));
        due.isTrue(x.bad(16, false));
        due.is(1, () -> x.about(1, 6));
        due.is(16, () -> x.write(0, 0, 7));
        due.is(1, () -> x.flush(1));
        due.is(7, () -> x.number(16));
        x.bad(16, true);
        due.is(7, () -> x.number(16));
        due.is(7, () -> x.read(0, 0));
        due.isTrue(x.close(0));
        x.commit();
        x.crash();
        due.isTrue(x.bad(16, false));
        due.isFalse(x.bad(63, false));
    }

    private static void firstAndLastBlock(Due due) {
        due.about("the first and the last block");
        Inodery x = Disks.withFiles(4);
        due.is(16, () -> x.ahead(2, 0, 15));
        due.is(0, () -> x.write(3, 0, 7));
        due.is(63, () -> x.write(2, 15, 8));
        due.is(2, () -> x.commit());
        due.is(7, () -> x.number(0));
        due.is(8, () -> x.number(63));
        due.is(7, () -> x.read(3, 0));
        x.bad(0, true);
        x.bad(63, true);
        x.write(3, 0, 1);
        x.write(2, 15, 2);
        due.is(2, () -> x.flush(2));
        due.is(7, () -> x.number(0));
        due.is(8, () -> x.number(63));
        due.isTrue(x.close(3));
        due.isTrue(x.close(2));
        due.isTrue(x.bad(0, false));
        due.isTrue(x.bad(63, false));
    }

    private static void syncs(Due due) {
        due.about("sync");
        Inodery x = Disks.withFiles(2);
        x.open(2, false);
        x.write(0, 0, 1);
        x.write(1, 0, 2);
        due.isFalse(x.sync(1));
        due.is(0, () -> x.dirty());
        due.is(1, () -> x.number(16));
        due.is(2, () -> x.number(32));
        x.bad(32, true);
        x.bad(16, true);
        x.write(0, 0, 3);
        x.write(1, 0, 4);
        due.isTrue(x.sync(2));
        due.is(0, () -> x.about(2, 6));
        due.is(1, () -> x.about(1, 6));
        due.isFalse(x.sync(1));
        due.isTrue(x.sync(0));
        due.isFalse(x.sync(0));
        x.file(3, 15);
        due.isFalse(x.sync(0));
        due.fails(Due.INDEX, () -> x.sync(3));
        due.fails(Due.INDEX, () -> x.sync(-1));
        x.crash();
        due.is(3, () -> x.look(3, false));
        due.fails(Due.STATE, () -> x.sync(0));

        due.about("sync ahead of the others");
        Inodery y = Disks.withFiles(2);
        y.write(1, 0, 1);
        y.damage(1, 1, 2);
        due.is(32, () -> y.write(0, 0, 50));
        due.is(32, () -> y.write(1, 0, 60));
        due.isFalse(y.sync(1));
        due.is(50, () -> y.number(32));
        y.write(0, 0, 51);
        y.write(1, 0, 61);
        due.is(2, () -> y.commit());
        due.is(61, () -> y.number(32));
    }

    private static void commits(Due due) {
        due.about("commit");
        Inodery x = Disks.withFiles(2);
        due.is(0, () -> x.commit());
        x.write(1, 0, 1);
        x.write(0, 7, 2);
        due.is(2, () -> x.commit());
        due.is(0, () -> x.commit());
        x.cut(1, 0);
        due.isFalse(x.isFree(32));
        due.is(33, () -> x.write(1, 0, 3));
        x.crash();
        due.is(32, () -> x.page(2, 0, 1));
        due.isTrue(x.isFree(33));
        due.is(1, () -> x.number(32));
        due.is(2, () -> x.open(2, true));
        due.is(32, () -> x.write(2, 0, 9));
        due.is(1, () -> x.flush(9));
        x.crash();
        due.is(9, () -> x.number(32));
    }

    private static void crashes(Due due) {
        due.about("crash");
        Inodery x = Disks.withFiles(2);
        x.bad(16, true);
        x.write(0, 0, 1);
        x.commit();
        x.write(0, 0, 2);
        x.write(1, 0, 3);
        x.write(1, 1, 4);
        x.rights(2, 3);
        x.own(2, 1);
        x.quota(1, 5);
        x.user(2);
        due.is(3, () -> x.crash());
        due.is(0, () -> x.crash());
        due.is(2, () -> x.user(0));
        due.is(5, () -> x.quota(1, 5));
        due.is(0, () -> x.dirty());
        due.is(0, () -> x.about(1, 6));
        due.is(0, () -> x.about(1, 5));
        due.is(15, () -> x.about(2, 2));
        due.is(0, () -> x.about(2, 1));
        due.is(0, () -> x.about(2, 4));
        due.is(1, () -> x.about(1, 4));
        due.is(1, () -> x.used(0));
        due.fails(Due.STATE, () -> x.read(0, 0));
        due.fails(Due.STATE, () -> x.close(1));
        due.is(2, () -> x.open(1, false));
        due.is(0, () -> x.read(2, 0));
        due.isFalse(x.close(2));
    }

    private static void crashesOfNameless(Due due) {
        due.about("crash with a nameless file");
        Inodery x = Disks.withFiles(1);
        x.write(0, 0, 1);
        x.remove(1);
        due.is(1, () -> x.commit());
        due.is(0, () -> x.about(1, 3));
        due.is(0, () -> x.crash());
        due.fails(Due.INDEX, () -> x.about(1, 0));
        due.is(0, () -> x.used(0));
        due.isFalse(x.isFree(16));
        due.is(1, () -> x.file(2, 15));
        due.is(1, () -> x.open(2, true));
        due.is(17, () -> x.write(1, 0, 2));
        due.is(1, () -> x.crash());
        due.fails(Due.INDEX, () -> x.about(1, 0));
        due.isFalse(x.isFree(16));
        due.isTrue(x.isFree(17));
        x.commit();
        due.isTrue(x.isFree(16));

        due.about("crash with a damaged count");
        Inodery y = Disks.withFiles(1);
        y.damage(0, 1, 0);
        due.isFalse(y.remove(1));
        y.commit();
        y.crash();
        due.is(1, () -> y.about(1, 3));
        due.is(100, () -> y.check());
    }

    private static void crashesOfNames(Due due) {
        due.about("crash with names");
        Inodery x = new Inodery();
        x.folder(1, 15);
        x.file(102, 15);
        x.link(3, 102);
        x.commit();
        x.rename(102, 4);
        x.remove(1);
        x.remove(3);
        x.link(5, 77);
        x.crash();
        due.is(2, () -> x.look(3, true));
        due.is(2, () -> x.look(102, true));
        due.is(102, () -> x.target(3));
        due.is(2, () -> x.about(0, 4));
        due.is(101, () -> x.entry(0, 0));
        due.is(303, () -> x.entry(0, 1));
        due.is(4, () -> x.file(4, 15));
    }

    /** Things, entries and pages with the highest numbers come back as well. */
    private static void crashesOfMuch(Due due) {
        due.about("crash with much");
        Inodery x = new Inodery();
        for (int name = 1; name <= 7; name++) {
            x.folder(name, 15);
        }
        for (int thing = 8; thing < 32; thing++) {
            x.file(100 * (1 + thing % 7) + thing, 15);
        }
        x.open(431, true);
        x.ahead(0, 0, 14);
        x.write(0, 15, 5);
        x.snapshot();
        x.cut(0, 0);
        for (int thing = 8; thing < 32; thing++) {
            x.remove(100 * (1 + thing % 7) + thing);
        }
        due.is(0, () -> x.about(4, 4));
        due.is(0, () -> x.crash());
        for (int thing = 8; thing < 32; thing++) {
            int each = thing;
            due.is(each, () -> x.look(100 * (1 + each % 7) + each, false));
        }
        due.is(3131, () -> x.entry(4, 3));
        due.is(63, () -> x.page(31, 15, 1));
        due.is(Inodery.WRITTEN, () -> x.page(31, 15, 0));
        due.is(Inodery.AHEAD, () -> x.page(31, 14, 0));
        due.is(5, () -> x.readOld(0, 431, 15));
    }

    private static void snapshots(Due due) {
        due.about("snapshot");
        Inodery x = Disks.withFiles(1);
        x.write(0, 0, 1);
        due.is(0, () -> x.snapshot());
        due.is(0, () -> x.dirty());
        due.is(1, () -> x.readOld(0, 1, 0));
        x.remove(1);
        x.close(0);
        x.crash();
        due.is(1, () -> x.look(1, false));
        due.is(1, () -> x.open(1, true));
        due.is(17, () -> x.write(1, 0, 2));
        due.is(2, () -> x.read(1, 0));
        due.is(1, () -> x.readOld(0, 1, 0));
        due.is(17, () -> x.write(1, 0, 3));
        due.is(1, () -> x.snapshot());
        due.is(3, () -> x.readOld(1, 1, 0));
        due.is(18, () -> x.write(1, 0, 4));
        x.commit();
        due.is(1, () -> x.readOld(0, 1, 0));
        due.is(3, () -> x.readOld(1, 1, 0));
        due.is(4, () -> x.read(1, 0));
    }

    private static void snapshotNumbers(Due due) {
        due.about("snapshot numbers");
        Inodery x = Disks.withFiles(1);
        due.is(0, () -> x.snapshot());
        due.is(1, () -> x.snapshot());
        due.is(2, () -> x.snapshot());
        x.write(0, 0, 1);
        due.fails(Due.STATE, () -> x.snapshot());
        due.is(1, () -> x.dirty());
        due.is(0, () -> x.drop(1));
        due.is(1, () -> x.snapshot());
        due.is(0, () -> x.dirty());
        due.is(0, () -> x.drop(0));
        due.is(0, () -> x.drop(2));
        due.fails(Due.INDEX, () -> x.drop(2));
        due.fails(Due.INDEX, () -> x.drop(0));
        due.fails(Due.INDEX, () -> x.drop(3));
        due.fails(Due.INDEX, () -> x.drop(-1));
        x.crash();
        due.is(1, () -> x.readOld(1, 1, 0));
        due.is(0, () -> x.snapshot());
        due.is(2, () -> x.snapshot());
    }

    private static void sharedBlocks(Due due) {
        due.about("shared blocks");
        Inodery x = Disks.withFiles(1);
        x.ahead(0, 0, 2);
        x.snapshot();
        due.is(19, () -> x.write(0, 1, 5));
        due.is(Inodery.WRITTEN, () -> x.page(1, 1, 0));
        due.is(3, () -> x.used(0));
        due.is(0, () -> x.readOld(0, 1, 1));
        due.is(20, () -> x.write(0, 2, 5));
        due.is(21, () -> x.write(0, 0, 6));
        due.is(21, () -> x.write(0, 0, 7));
        due.is(22, () -> x.write(0, 3, 7));
        due.isFalse(x.isFree(16));
        x.commit();
        due.isFalse(x.isFree(16));
        due.is(19, () -> x.write(0, 1, 8));
        due.is(3, () -> x.drop(0));
        due.isTrue(x.isFree(16));
        due.is(19, () -> x.write(0, 1, 9));
        x.snapshot();
        x.cut(0, 0);
        due.is(16, () -> x.write(0, 0, 9));
        due.is(17, () -> x.write(0, 1, 9));
        due.is(9, () -> x.readOld(0, 1, 1));
    }

    private static void drops(Due due) {
        due.about("drop");
        Inodery x = Disks.withFiles(2);
        x.write(0, 0, 1);
        x.write(1, 0, 2);
        x.snapshot();
        x.snapshot();
        x.cut(0, 0);
        x.cut(1, 0);
        due.is(0, () -> x.drop(0));
        due.is(0, () -> x.drop(1));
        due.isFalse(x.isFree(16));
        x.snapshot();
        due.isTrue(x.isFree(16));
        x.crash();
        x.open(1, true);
        x.write(2, 0, 3);
        x.snapshot();
        x.remove(1);
        x.close(2);
        x.commit();
        due.isFalse(x.isFree(16));
        due.is(0, () -> x.drop(0));
        due.is(1, () -> x.drop(1));
        due.isTrue(x.isFree(16));
    }

    private static void oldReads(Due due) {
        due.about("readOld");
        Inodery x = Disks.withFiles(1);
        x.folder(3, 0);
        x.link(4, 1);
        x.link(5, 9);
        x.write(0, 0, 9);
        x.flush(1);
        x.cut(0, 0);
        x.ahead(0, 0, 0);
        x.write(0, 1, 8);
        x.rights(1, 0);
        x.snapshot();
        due.is(9, () -> x.number(16));
        due.is(0, () -> x.readOld(0, 1, 0));
        due.is(8, () -> x.readOld(0, 1, 1));
        due.is(8, () -> x.readOld(0, 4, 1));
        due.is(0, () -> x.readOld(0, 1, 15));
        x.user(3);
        due.is(8, () -> x.readOld(0, 1, 1));
        due.fails(Due.ARGUMENT, () -> x.readOld(0, -1, 0));
        due.fails(Due.ARGUMENT, () -> x.readOld(5, 100000000, 0));
        due.fails(Due.INDEX, () -> x.readOld(1, 1, 0));
        due.fails(Due.INDEX, () -> x.readOld(-1, 1, 0));
        due.fails(Due.INDEX, () -> x.readOld(3, 1, 0));
        due.fails(Due.INDEX, () -> x.readOld(0, 2, 0));
        due.fails(Due.INDEX, () -> x.readOld(0, 5, 0));
        due.fails(Due.INDEX, () -> x.readOld(0, 1, 16));
        due.fails(Due.INDEX, () -> x.readOld(0, 1, -1));
        due.fails(Due.INDEX, () -> x.readOld(0, 3, 16));
        due.fails(Due.STATE, () -> x.readOld(0, 3, 0));
        due.fails(Due.STATE, () -> x.readOld(0, 0, 0));
        x.drop(0);
        due.fails(Due.INDEX, () -> x.readOld(0, 1, 1));
    }

    private static void oldPaths(Due due) {
        due.about("paths in a snapshot");
        Inodery x = Disks.withFiles(1);
        x.link(4, 1);
        x.write(0, 0, 3);
        x.snapshot();
        x.rename(1, 7);
        x.remove(4);
        x.link(4, 7);
        x.write(0, 0, 4);
        x.snapshot();
        due.is(3, () -> x.readOld(0, 1, 0));
        due.is(3, () -> x.readOld(0, 4, 0));
        due.fails(Due.INDEX, () -> x.readOld(0, 7, 0));
        due.fails(Due.INDEX, () -> x.readOld(1, 1, 0));
        due.is(4, () -> x.readOld(1, 4, 0));
        due.is(4, () -> x.readOld(1, 7, 0));
    }
}

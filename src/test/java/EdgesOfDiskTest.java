/** The edges that the document names of the disk: promises 21 to 29, a sentence at a time. */
public final class EdgesOfDiskTest {
    public static void main(String[] args) {
        Due due = new Due("EdgesOfDiskTest");
        flush(due);
        flushBad(due);
        sync(due);
        syncOfNameless(due);
        commit(due);
        crash(due);
        crashOfNameless(due);
        crashTwice(due);
        snapshot(due);
        snapshotStays(due);
        drop(due);
        dropOfShared(due);
        readOld(due);
        readOldPaths(due);
        readOldLinks(due);
        quota(due);
        bad(due);
        due.end();
    }

    private static void flush(Due due) {
        due.about("21: many is 1 to 512");
        Inodery x = Disks.withFiles(4);
        due.outside(Due.ARGUMENT, 1, 512, many -> x.flush(many));
        due.is(0, () -> x.flush(1));
        due.is(0, () -> x.flush(512));
        due.about("21: how many were, at most as many as are dirty");
        x.write(2, 15, 1);
        due.outside(Due.ARGUMENT, 1, 512, many -> x.flush(many));
        due.is(1, () -> x.dirty());
        due.is(1, () -> x.flush(2));
        due.is(0, () -> x.flush(1));
        due.about("21: the first dirty pages, by rising things and pages");
        for (int handle = 3; handle >= 0; handle--) {
            for (int page = 15; page >= 0; page--) {
                x.write(handle, page, 16 * handle + page + 1);
            }
        }
        due.is(64, () -> x.dirty());
        due.is(17, () -> x.flush(17));
        due.is(0, () -> x.page(2, 0, 2));
        due.is(1, () -> x.page(2, 1, 2));
        due.is(16, () -> x.number(x.page(1, 15, 1)));
        due.is(17, () -> x.number(x.page(2, 0, 1)));
        due.is(0, () -> x.number(x.page(2, 1, 1)));
        due.is(46, () -> x.flush(46));
        due.is(0, () -> x.page(4, 14, 2));
        due.is(1, () -> x.page(4, 15, 2));
        due.is(1, () -> x.flush(512));
        due.is(64, () -> x.number(x.page(4, 15, 1)));
        due.is(0, () -> x.dirty());
    }

    private static void flushBad(Due due) {
        due.about("to a bad block the number is lost, and the thing has an error, until that is told");
        Inodery x = Disks.withFiles(2);
        x.write(0, 0, 1);
        x.write(1, 0, 2);
        x.flush(2);
        x.bad(16, true);
        x.write(0, 0, 3);
        x.write(0, 1, 4);
        due.is(0, () -> x.about(1, 6));
        due.is(1, () -> x.flush(1));
        due.is(1, () -> x.number(16));
        due.is(1, () -> x.read(0, 0));
        due.is(0, () -> x.page(1, 0, 2));
        due.is(1, () -> x.about(1, 6));
        due.is(0, () -> x.about(2, 6));
        due.about("it is not dirty any more");
        due.is(1, () -> x.dirty());
        x.bad(16, false);
        due.is(1, () -> x.flush(512));
        due.is(4, () -> x.number(17));
        due.is(1, () -> x.number(16));
        due.is(1, () -> x.about(1, 6));
        due.about("until that is told, and no more by a good flush");
        due.isTrue(x.close(0));
        due.is(0, () -> x.about(1, 6));
        due.about("a block that is bad while it is written, but not while it is flushed");
        x.bad(32, true);
        x.write(1, 0, 9);
        x.bad(32, false);
        x.flush(1);
        due.is(9, () -> x.number(32));
        due.isFalse(x.close(1));
    }

    private static void sync(Due due) {
        due.about("22: there is no such handle");
        Inodery x = Disks.withFiles(2);
        due.outside(Due.INDEX, 0, 29, handle -> x.sync(handle));
        due.fails(Due.INDEX, () -> x.sync(2));
        due.about("22: it is closed");
        x.open(1, false);
        x.close(2);
        due.fails(Due.STATE, () -> x.sync(2));
        due.about("22: whether the file had an error, which is told by that");
        due.isFalse(x.sync(0));
        x.bad(16, true);
        x.write(0, 0, 1);
        x.flush(1);
        due.isFalse(x.sync(1));
        due.isTrue(x.sync(0));
        due.isFalse(x.sync(0));
        x.write(0, 0, 1);
        due.isTrue(x.sync(0));
        x.write(0, 0, 1);
        due.isFalse(x.sync(1));
        due.is(0, () -> x.dirty());
        due.isTrue(x.close(0));
        due.about("22: by a handle that is only to read, of what another one wrote");
        due.is(3, () -> x.open(2, false));
        x.write(1, 3, 7);
        due.isFalse(x.sync(3));
        due.is(7, () -> x.number(32));
        due.is(0, () -> x.crash());
        due.is(Inodery.WRITTEN, () -> x.page(2, 3, 0));
        due.fails(Due.STATE, () -> x.sync(3));
    }

    private static void syncOfNameless(Due due) {
        due.about("22: a file without names is committed, and gone by a crash");
        Inodery x = Disks.withFiles(1);
        x.remove(1);
        x.write(0, 0, 5);
        due.isFalse(x.sync(0));
        due.is(5, () -> x.number(16));
        due.is(0, () -> x.about(1, 3));
        x.crash();
        due.fails(Due.INDEX, () -> x.about(1, 3));
        due.isFalse(x.isFree(16));
        due.is(0, () -> x.commit());
        due.isTrue(x.isFree(16));
    }

    private static void commit(Due due) {
        due.about("23: how many pages were flushed");
        Inodery x = Disks.withFiles(4);
        due.is(0, () -> x.commit());
        x.ahead(0, 0, 15);
        due.is(0, () -> x.commit());
        x.write(0, 15, 1);
        due.is(1, () -> x.commit());
        due.is(0, () -> x.commit());
        for (int handle = 0; handle < 4; handle++) {
            for (int page = 0; page < 16; page++) {
                x.write(handle, page, 9);
            }
        }
        due.is(64, () -> x.commit());
        due.is(9, () -> x.number(0));
        due.is(9, () -> x.number(63));
        due.about("23: a page whose number is lost was flushed as well");
        x.bad(16, true);
        x.write(0, 0, 7);
        due.is(1, () -> x.commit());
        due.is(9, () -> x.number(16));
        due.is(1, () -> x.about(1, 6));
    }

    private static void crash(Due due) {
        due.about("24: how many dirty pages were lost");
        Inodery x = Disks.withFiles(2);
        due.is(0, () -> x.crash());
        due.fails(Due.INDEX, () -> x.about(1, 0));
        x.file(1, 15);
        x.commit();
        x.open(1, true);
        x.write(2, 0, 1);
        x.write(2, 0, 2);
        x.write(2, 15, 3);
        due.is(2, () -> x.crash());
        due.about("24: the state of now becomes like that which was committed");
        due.is(0, () -> x.about(1, 4));
        due.is(0, () -> x.used(0));
        due.isTrue(x.isFree(16));
        due.about("24: all handles are closed");
        for (int handle = 0; handle < 3; handle++) {
            int each = handle;
            due.fails(Due.STATE, () -> x.close(each));
            due.fails(Due.STATE, () -> x.read(each, 0));
        }
        due.fails(Due.INDEX, () -> x.close(3));
        due.is(0, () -> x.about(1, 5));
        due.about("24: nothing is dirty, and no thing has an error");
        x.open(1, true);
        x.bad(16, true);
        x.write(3, 0, 4);
        due.is(1, () -> x.commit());
        due.is(1, () -> x.about(1, 6));
        x.write(3, 1, 5);
        due.is(1, () -> x.crash());
        due.is(0, () -> x.dirty());
        due.is(0, () -> x.about(1, 6));
        due.is(0, () -> x.page(1, 1, 2));
        due.is(Inodery.WRITTEN, () -> x.page(1, 0, 0));
    }

    private static void crashOfNameless(Due due) {
        due.about("24: files whose count of names is 0 are gone from the state of now then");
        Inodery x = Disks.withFiles(2);
        x.write(0, 0, 5);
        x.remove(1);
        x.snapshot();
        x.crash();
        due.fails(Due.INDEX, () -> x.about(1, 0));
        due.is(0, () -> x.used(0));
        due.about("24: not from what is committed");
        due.is(0, () -> x.drop(0));
        due.isFalse(x.isFree(16));
        due.is(1, () -> x.folder(7, 15));
        x.crash();
        due.fails(Due.INDEX, () -> x.about(1, 0));
        due.isFalse(x.isFree(16));
        x.commit();
        due.isTrue(x.isFree(16));
        due.about("24: a file whose count is damaged stays, one without an entry that is counted as well");
        Inodery y = Disks.withFiles(1);
        y.damage(2, 0, 0);
        y.commit();
        y.crash();
        due.is(1, () -> y.about(1, 3));
        due.is(100, () -> y.check());
        y.crash();
        due.is(1, () -> y.about(1, 3));
    }

    private static void crashTwice(Due due) {
        due.about("24: again, and before anything was committed");
        Inodery x = Disks.withFiles(1);
        x.write(0, 0, 5);
        due.is(1, () -> x.crash());
        due.is(0, () -> x.crash());
        due.is(0, () -> x.about(0, 4));
        due.is(1, () -> x.folder(3, 15));
        x.commit();
        x.remove(3);
        due.is(0, () -> x.crash());
        due.is(0, () -> x.crash());
        due.is(103, () -> x.entry(0, 0));
        due.about("24: what blocks have written in place is not taken back");
        x.file(301, 15);
        x.open(301, true);
        due.is(32, () -> x.write(1, 0, 5));
        x.commit();
        due.is(32, () -> x.write(1, 0, 6));
        x.flush(1);
        due.is(0, () -> x.crash());
        due.is(6, () -> x.number(32));
        due.is(2, () -> x.open(301, false));
        due.is(6, () -> x.read(2, 0));
    }

    private static void snapshot(Due due) {
        due.about("25: the lowest number that is not given");
        for (int dropped = 0; dropped < 8; dropped++) {
            Inodery x = Disks.withFiles(1);
            due.is(0, () -> x.snapshot());
            due.is(1, () -> x.snapshot());
            due.is(2, () -> x.snapshot());
            due.fails(Due.STATE, () -> x.snapshot());
            for (int number = 0; number < 3; number++) {
                if ((dropped >> number & 1) != 0) x.drop(number);
            }
            for (int number = 0; number < 3; number++) {
                int each = number;
                if ((dropped >> number & 1) != 0) due.is(each, () -> x.snapshot());
            }
            due.fails(Due.STATE, () -> x.snapshot());
        }
        due.about("25: there are 3, and nothing is committed");
        Inodery y = Disks.withFiles(1);
        y.snapshot();
        y.snapshot();
        y.snapshot();
        y.write(0, 0, 5);
        y.file(2, 15);
        due.fails(Due.STATE, () -> y.snapshot());
        due.is(1, () -> y.dirty());
        due.is(0, () -> y.number(16));
        due.is(1, () -> y.crash());
        due.fails(Due.INDEX, () -> y.about(2, 0));
        due.fails(Due.STATE, () -> y.snapshot());
        due.about("25: by committing");
        y.drop(1);
        y.file(2, 15);
        due.is(1, () -> y.snapshot());
        y.crash();
        due.is(Inodery.FILE, () -> y.about(2, 0));
    }

    private static void snapshotStays(Due due) {
        due.about("a snapshot stays as it is, until it is dropped");
        Inodery x = Disks.withFiles(2);
        x.write(0, 0, 5);
        x.write(0, 15, 6);
        x.snapshot();
        x.write(0, 0, 7);
        x.commit();
        x.cut(0, 0);
        x.rename(2, 1);
        x.commit();
        x.crash();
        x.damage(2, 0, 0);
        due.is(100, () -> x.check());
        x.commit();
        due.is(5, () -> x.readOld(0, 1, 0));
        due.is(6, () -> x.readOld(0, 1, 15));
        due.is(0, () -> x.readOld(0, 2, 0));
        due.isFalse(x.isFree(16));
        due.isFalse(x.isFree(17));
        due.isTrue(x.isFree(18));
        due.is(2, () -> x.drop(0));
        due.fails(Due.INDEX, () -> x.readOld(0, 1, 0));
    }

    private static void drop(Due due) {
        due.about("26: there is no such snapshot");
        Inodery x = Disks.withFiles(1);
        for (int number = 0; number < 3; number++) {
            int each = number;
            due.fails(Due.INDEX, () -> x.drop(each));
        }
        due.outside(Due.INDEX, 0, 2, number -> x.drop(number));
        x.snapshot();
        due.fails(Due.INDEX, () -> x.drop(1));
        x.snapshot();
        x.snapshot();
        due.outside(Due.INDEX, 0, 2, number -> x.drop(number));
        due.is(0, () -> x.drop(0));
        due.fails(Due.INDEX, () -> x.drop(0));
        due.is(0, () -> x.drop(2));
        due.fails(Due.INDEX, () -> x.drop(2));
        due.is(0, () -> x.drop(1));
        due.fails(Due.INDEX, () -> x.drop(1));
        due.about("26: how many blocks are free by that, all of them");
        Inodery y = Disks.withAllBlocks();
        y.snapshot();
        for (int handle = 0; handle < 4; handle++) {
            y.cut(handle, 0);
        }
        y.commit();
        due.is(0, () -> y.used(0));
        due.fails(Due.STATE, () -> y.write(0, 0, 1));
        due.is(64, () -> y.drop(0));
        due.is(16, () -> y.write(0, 0, 1));
    }

    private static void dropOfShared(Due due) {
        due.about("26: a block that something else has is not free by that");
        Inodery x = Disks.withFiles(1);
        x.ahead(0, 0, 3);
        x.snapshot();
        x.cut(0, 3);
        x.snapshot();
        x.cut(0, 2);
        x.commit();
        x.cut(0, 1);
        due.is(1, () -> x.drop(0));
        due.isTrue(x.isFree(19));
        due.isFalse(x.isFree(18));
        due.is(1, () -> x.drop(1));
        due.isTrue(x.isFree(18));
        due.about("26: what is committed and what is now keep theirs");
        due.isFalse(x.isFree(17));
        due.isFalse(x.isFree(16));
        x.commit();
        due.isTrue(x.isFree(17));
        due.isFalse(x.isFree(16));
    }

    private static void readOld(Due due) {
        due.about("27: path is out of range");
        Inodery x = Disks.withFiles(1);
        x.folder(2, 15);
        x.write(0, 0, 255);
        x.write(0, 15, 254);
        x.ahead(0, 1, 1);
        x.snapshot();
        due.outside(Due.ARGUMENT, 0, 99999999, path -> x.readOld(0, path, 0));
        due.outside(Due.ARGUMENT, 0, 99999999, path -> x.readOld(1, path, 16));
        due.about("27: there is no such snapshot, thing in it, or page");
        due.outside(Due.INDEX, 0, 2, number -> x.readOld(number, 1, 0));
        due.outside(Due.INDEX, 0, 2, number -> x.readOld(number, 0, 0));
        due.fails(Due.INDEX, () -> x.readOld(1, 1, 0));
        due.fails(Due.INDEX, () -> x.readOld(2, 1, 0));
        due.outside(Due.INDEX, 0, 15, page -> x.readOld(0, 1, page));
        due.outside(Due.INDEX, 0, 15, page -> x.readOld(0, 2, page));
        due.fails(Due.INDEX, () -> x.readOld(0, 9, 0));
        due.fails(Due.INDEX, () -> x.readOld(0, 101, 0));
        due.fails(Due.INDEX, () -> x.readOld(0, 100, 0));
        due.about("27: it is no file there");
        due.fails(Due.STATE, () -> x.readOld(0, 0, 0));
        due.fails(Due.STATE, () -> x.readOld(0, 2, 15));
        due.about("27: the number of its block if it is written there, otherwise 0");
        due.is(255, () -> x.readOld(0, 1, 0));
        due.is(254, () -> x.readOld(0, 1, 15));
        due.is(0, () -> x.readOld(0, 1, 1));
        due.is(0, () -> x.readOld(0, 1, 14));
        x.write(0, 1, 9);
        x.write(0, 14, 9);
        x.commit();
        due.is(0, () -> x.readOld(0, 1, 1));
        due.is(0, () -> x.readOld(0, 1, 14));
    }

    private static void readOldPaths(Due due) {
        due.about("27: the path is one in the snapshot");
        Inodery x = Disks.withFiles(1);
        x.write(0, 0, 5);
        x.snapshot();
        x.rename(1, 2);
        x.folder(1, 15);
        x.write(0, 0, 6);
        x.snapshot();
        due.is(5, () -> x.readOld(0, 1, 0));
        due.fails(Due.INDEX, () -> x.readOld(0, 2, 0));
        due.fails(Due.STATE, () -> x.readOld(1, 1, 0));
        due.is(6, () -> x.readOld(1, 2, 0));
        due.about("27: what is gone now is there still, whatever the user may");
        x.rights(2, 0);
        x.remove(2);
        x.close(0);
        x.commit();
        x.user(3);
        due.is(5, () -> x.readOld(0, 1, 0));
        due.is(6, () -> x.readOld(1, 2, 0));
        due.about("27: a file without names is not found");
        Inodery y = Disks.withFiles(1);
        y.write(0, 0, 5);
        y.remove(1);
        y.snapshot();
        due.fails(Due.INDEX, () -> y.readOld(0, 1, 0));
    }

    private static void readOldLinks(Due due) {
        due.about("27: a link at the end is followed, at most 4 in one walk");
        Inodery x = Disks.withFiles(1);
        x.write(0, 0, 5);
        x.link(2, 1);
        x.link(3, 2);
        x.link(4, 3);
        x.link(5, 4);
        x.link(6, 5);
        x.link(7, 99);
        x.snapshot();
        for (int name = 2; name <= 5; name++) {
            int each = name;
            due.is(5, () -> x.readOld(0, each, 0));
        }
        due.fails(Due.INDEX, () -> x.readOld(0, 6, 0));
        due.fails(Due.INDEX, () -> x.readOld(0, 7, 0));
        due.fails(Due.INDEX, () -> x.readOld(0, 201, 0));
        due.about("27: links are those in the snapshot");
        for (int name = 2; name <= 5; name++) {
            x.remove(name);
        }
        x.commit();
        due.fails(Due.INDEX, () -> x.look(6, true));
        due.is(5, () -> x.readOld(0, 5, 0));
    }

    private static void quota(Due due) {
        due.about("28: there is no such user");
        Inodery x = Disks.withFiles(1);
        due.outside(Due.INDEX, 0, 3, user -> x.quota(user, 0));
        due.outside(Due.INDEX, 0, 3, user -> x.quota(user, 65));
        due.about("28: blocks is out of range");
        for (int user = 0; user < 4; user++) {
            int each = user;
            due.outside(Due.ARGUMENT, 0, 64, blocks -> x.quota(each, blocks));
            due.is(64, () -> x.quota(each, 0));
            due.is(0, () -> x.quota(each, 64));
            due.is(64, () -> x.quota(each, each));
        }
        due.is(3, () -> x.quota(3, 3));
        due.about("28: what they have stays");
        x.quota(0, 64);
        x.ahead(0, 0, 15);
        due.is(64, () -> x.quota(0, 0));
        due.is(16, () -> x.used(0));
        due.is(16, () -> x.about(1, 4));
        due.is(2, () -> x.cut(0, 14));
        due.fails(Due.STATE, () -> x.ahead(0, 14, 14));
        due.about("28: whoever does it");
        x.user(2);
        due.is(0, () -> x.quota(0, 15));
        due.is(1, () -> x.ahead(0, 14, 14));
    }

    private static void bad(Due due) {
        due.about("29: there is no such block");
        Inodery x = Disks.withFiles(1);
        due.outside(Due.INDEX, 0, 63, block -> x.bad(block, true));
        due.outside(Due.INDEX, 0, 63, block -> x.bad(block, false));
        due.about("29: whether it was bad");
        for (int block = 0; block < 64; block += 63) {
            due.isFalse(x.bad(block, false));
            due.isFalse(x.bad(block, true));
            due.isTrue(x.bad(block, true));
            due.isTrue(x.bad(block, false));
            due.isFalse(x.bad(block, true));
        }
        due.isFalse(x.bad(1, false));
        due.isFalse(x.bad(62, false));
        due.about("29: a bad block is taken and read like others");
        due.isTrue(x.isFree(63));
        x.write(0, 0, 5);
        x.flush(1);
        x.bad(16, true);
        due.is(5, () -> x.read(0, 0));
        x.cut(0, 0);
        due.is(16, () -> x.write(0, 0, 6));
        due.about("29: a crash leaves it as it is");
        x.crash();
        due.isTrue(x.bad(16, false));
        due.isTrue(x.bad(63, false));
        due.isFalse(x.bad(17, false));
    }
}

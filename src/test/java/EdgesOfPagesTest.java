/** The edges that the document names of pages, blocks, handles and locks: promises 13 to 20, and the Terms. */
public final class EdgesOfPagesTest {
    public static void main(String[] args) {
        Due due = new Due("EdgesOfPagesTest");
        close(due);
        closeOfTheLast(due);
        write(due);
        writeRefused(due);
        blockBehind(due);
        blockBehindEndOfGroup(due);
        blockBehindNotFree(due);
        lowestOfGroup(due);
        groupsRound(due);
        noBlock(due);
        quota(due);
        quotaTwice(due);
        blocksOfSnapshots(due);
        read(due);
        ahead(due);
        aheadRefused(due);
        aheadAtLimits(due);
        cut(due);
        lock(due);
        lockHindered(due);
        lockOfSame(due);
        locksHinderLocksAlone(due);
        unlock(due);
        lockRefused(due);
        lockOf(due);
        due.end();
    }

    private static void close(Due due) {
        due.about("13: there is no such handle");
        Inodery x = new Inodery();
        x.file(1, 15);
        due.outside(Due.INDEX, 0, 29, handle -> x.close(handle));
        due.fails(Due.INDEX, () -> x.close(0));
        x.open(1, true);
        due.fails(Due.INDEX, () -> x.close(1));
        due.fails(Due.INDEX, () -> x.close(29));
        due.about("13: it is closed");
        due.isFalse(x.close(0));
        due.fails(Due.STATE, () -> x.close(0));
        x.open(1, true);
        x.commit();
        x.crash();
        due.fails(Due.STATE, () -> x.close(1));
        due.about("13: whether the file had an error, which is told by that");
        due.is(2, () -> x.open(1, true));
        x.open(1, true);
        x.open(1, true);
        x.bad(16, true);
        x.write(2, 0, 1);
        x.flush(1);
        due.isTrue(x.close(2));
        due.is(0, () -> x.about(1, 6));
        due.isFalse(x.close(3));
        x.write(4, 0, 1);
        due.is(0, () -> x.about(1, 6));
        due.isFalse(x.close(4));
        due.is(1, () -> x.flush(1));
        due.is(1, () -> x.about(1, 6));
    }

    private static void closeOfTheLast(Due due) {
        due.about("a file of which a handle is open stays until the last one is closed");
        Inodery x = Disks.withFiles(1);
        x.open(1, false);
        x.open(1, false);
        x.write(0, 0, 1);
        x.write(0, 15, 2);
        due.isFalse(x.remove(1));
        due.isFalse(x.close(0));
        due.is(2, () -> x.dirty());
        due.isFalse(x.close(2));
        due.is(2, () -> x.read(1, 15));
        due.is(0, () -> x.about(1, 3));
        due.is(1, () -> x.about(1, 5));
        due.about("what is gone has no pages; what was dirty of it is let go");
        due.isFalse(x.close(1));
        due.fails(Due.INDEX, () -> x.about(1, 3));
        due.fails(Due.INDEX, () -> x.page(1, 0, 0));
        due.is(0, () -> x.dirty());
        due.is(0, () -> x.used(0));
        due.isTrue(x.isFree(16));
        due.isTrue(x.isFree(17));
        due.is(1, () -> x.file(1, 15));
        due.is(0, () -> x.about(1, 4));
        due.is(0, () -> x.about(1, 5));
        due.is(Inodery.HOLE, () -> x.page(1, 15, 0));
    }

    private static void write(Due due) {
        due.about("14: pages are 0 to 15, numbers 0 to 255");
        Inodery x = Disks.withFiles(1);
        due.is(16, () -> x.write(0, 0, 0));
        due.is(17, () -> x.write(0, 15, 255));
        due.is(0, () -> x.read(0, 0));
        due.is(255, () -> x.read(0, 15));
        due.outside(Due.INDEX, 0, 15, page -> x.write(0, page, 1));
        due.outside(Due.ARGUMENT, 0, 255, number -> x.write(0, 0, number));
        due.about("14: the block that the page has then");
        due.is(16, () -> x.write(0, 0, 1));
        due.is(17, () -> x.write(0, 15, 1));
        due.is(2, () -> x.about(1, 4));
        due.about("14: it is written then, and dirty");
        x.ahead(0, 5, 5);
        due.is(18, () -> x.write(0, 5, 1));
        due.is(Inodery.WRITTEN, () -> x.page(1, 5, 0));
        due.is(1, () -> x.page(1, 5, 2));
        due.is(3, () -> x.dirty());
        x.flush(512);
        due.is(16, () -> x.write(0, 0, 1));
        due.is(1, () -> x.dirty());
        due.about("14: a block that the committed state has as well is kept");
        x.commit();
        due.is(16, () -> x.write(0, 0, 2));
        due.is(1, () -> x.number(16));
    }

    private static void writeRefused(Due due) {
        due.about("14: no such handle or page");
        Inodery x = Disks.withFiles(1);
        x.open(1, false);
        x.open(1, true);
        x.close(2);
        due.outside(Due.INDEX, 0, 2, handle -> x.write(handle, 0, 1));
        due.about("14: no such handle or page comes ahead of the number, that of what is closed or only to read");
        due.outside(Due.INDEX, 0, 2, handle -> x.write(handle, 16, 256));
        due.outside(Due.INDEX, 0, 15, page -> x.write(0, page, 256));
        due.outside(Due.INDEX, 0, 15, page -> x.write(1, page, 1));
        due.outside(Due.INDEX, 0, 15, page -> x.write(2, page, 1));
        due.outside(Due.ARGUMENT, 0, 255, number -> x.write(1, 0, number));
        due.outside(Due.ARGUMENT, 0, 255, number -> x.write(2, 0, number));
        due.about("14: it is closed, or only to read");
        due.fails(Due.STATE, () -> x.write(1, 0, 1));
        due.fails(Due.STATE, () -> x.write(2, 0, 1));
        due.is(0, () -> x.dirty());
        x.write(0, 0, 1);
        due.fails(Due.STATE, () -> x.write(1, 0, 1));
        due.is(1, () -> x.read(1, 0));
    }

    private static void blockBehind(Due due) {
        due.about("the block behind that of the page ahead of it, if that has one");
        Inodery x = Disks.withFiles(5);
        due.is(16, () -> x.write(0, 5, 1));
        due.is(17, () -> x.write(0, 6, 1));
        due.is(18, () -> x.write(4, 0, 1));
        due.is(19, () -> x.write(4, 1, 1));
        due.is(1, () -> x.cut(0, 6));
        due.is(20, () -> x.write(4, 2, 1));
        due.is(17, () -> x.write(0, 15, 1));
        due.about("the block behind that of the page ahead of it, which is told ahead");
        due.is(1, () -> x.ahead(0, 8, 8));
        due.is(21, () -> x.page(1, 8, 1));
        due.is(22, () -> x.write(0, 9, 1));
        due.about("the page 0 has none ahead of it, nor a page behind a hole");
        due.is(5, () -> x.cut(0, 0) + x.cut(4, 2));
        due.is(16, () -> x.write(4, 15, 1));
        due.is(17, () -> x.write(0, 0, 1));
        due.is(20, () -> x.write(0, 2, 1));
        due.is(21, () -> x.write(0, 3, 1));
        due.is(22, () -> x.write(0, 1, 1));
    }

    private static void blockBehindEndOfGroup(Due due) {
        due.about("the block behind is of the same group");
        for (int group = 0; group < 4; group++) {
            int last = group * 16 + 15;
            Inodery x = Disks.withFiles(8);
            int filler = (group + 3) % 4;
            x.ahead(filler, 0, 13);
            due.is(last - 1, () -> x.write(filler + 4, 3, 1));
            x.cut(filler, 0);
            due.is(last, () -> x.write(filler + 4, 4, 1));
            due.is(last - 15, () -> x.write(filler + 4, 5, 1));
            due.is(last - 14, () -> x.write(filler + 4, 6, 1));
            due.isTrue(x.isFree((last + 1) % 64));
        }
    }

    private static void blockBehindNotFree(Due due) {
        due.about("the block behind is not free: the state of now has it");
        Inodery x = Disks.withFiles(5);
        x.write(0, 0, 1);
        x.write(4, 0, 1);
        due.is(18, () -> x.write(0, 1, 1));
        due.about("the block behind is not free: what is committed has it");
        Inodery y = Disks.withFiles(5);
        y.write(0, 0, 1);
        y.write(4, 0, 1);
        y.commit();
        y.cut(4, 0);
        due.is(18, () -> y.write(0, 1, 1));
        y.commit();
        y.cut(0, 1);
        due.is(17, () -> y.write(0, 1, 1));
        due.about("the block behind is not free: a snapshot has it");
        Inodery z = Disks.withFiles(5);
        z.write(0, 0, 1);
        z.write(4, 0, 1);
        z.snapshot();
        z.cut(4, 0);
        z.commit();
        due.is(18, () -> z.write(0, 1, 1));
        z.drop(0);
        z.cut(0, 1);
        due.is(17, () -> z.write(0, 1, 1));
        due.about("the block behind is free, though bad");
        z.bad(18, true);
        due.is(18, () -> z.write(0, 2, 1));
    }

    private static void lowestOfGroup(Due due) {
        due.about("the lowest free block of the group whose number is that of the thing modulo 4");
        Inodery x = Disks.withAllThings();
        for (int thing = 8; thing < 32; thing++) {
            int path = 101 + 100 * ((thing - 8) / 8) + thing % 8;
            int handle = x.open(path, true);
            int block = thing % 4 * 16 + (thing - 8) / 4;
            due.is(block, () -> x.write(handle, 15, 1));
        }
        due.is(1, () -> x.cut(3, 0));
        due.is(53, () -> x.write(23, 15, 1));
        due.is(1, () -> x.cut(23, 15));
        due.is(48, () -> x.write(23, 7, 1));
    }

    private static void groupsRound(Due due) {
        due.about("or else of the next group, and so on, round");
        Inodery x = Disks.withFiles(7);
        due.is(16, () -> x.ahead(2, 0, 15));
        due.is(0, () -> x.write(6, 0, 1));
        due.is(15, () -> x.ahead(3, 0, 14));
        due.is(16, () -> x.write(6, 2, 1));
        due.is(15, () -> x.ahead(0, 0, 14));
        due.is(32, () -> x.write(6, 4, 1));
        due.is(15, () -> x.ahead(1, 0, 14));
        due.fails(Due.STATE, () -> x.write(6, 6, 1));
        due.about("the first free one is the last of the last group");
        due.is(1, () -> x.cut(1, 14));
        due.is(47, () -> x.write(6, 6, 1));
        due.fails(Due.STATE, () -> x.write(6, 8, 1));
    }

    private static void noBlock(Due due) {
        due.about("14: there is no block for the page: none is free");
        Inodery x = Disks.withAllBlocks();
        x.file(5, 15);
        x.open(5, true);
        due.is(64, () -> x.used(0));
        x.own(5, 1);
        due.fails(Due.STATE, () -> x.write(4, 0, 1));
        due.fails(Due.STATE, () -> x.write(4, 15, 1));
        due.is(16, () -> x.write(0, 0, 1));
        due.is(63, () -> x.write(2, 15, 1));
        due.about("14: there is no block for the page: a snapshot has its own, and none is free");
        x.snapshot();
        due.fails(Due.STATE, () -> x.write(0, 0, 2));
        due.fails(Due.STATE, () -> x.write(3, 0, 2));
        due.is(1, () -> x.read(0, 0));
        due.is(0, () -> x.dirty());
        x.drop(0);
        due.is(16, () -> x.write(0, 0, 2));
        due.about("14: there is a block again when what is committed has it no more");
        due.is(1, () -> x.cut(2, 15));
        due.fails(Due.STATE, () -> x.write(4, 0, 1));
        x.commit();
        due.is(63, () -> x.write(4, 0, 1));
        due.fails(Due.STATE, () -> x.write(4, 1, 1));
    }

    private static void quota(Due due) {
        due.about("a page gets a block only if the owner has less than their quota");
        Inodery x = Disks.withFiles(1);
        x.quota(0, 0);
        due.fails(Due.STATE, () -> x.write(0, 0, 1));
        due.fails(Due.STATE, () -> x.ahead(0, 0, 0));
        x.quota(0, 1);
        due.is(16, () -> x.write(0, 0, 1));
        due.fails(Due.STATE, () -> x.write(0, 1, 1));
        due.fails(Due.STATE, () -> x.ahead(0, 0, 1));
        x.quota(0, 2);
        due.is(1, () -> x.ahead(0, 0, 1));
        due.about("unless it has one already");
        x.quota(0, 0);
        due.is(16, () -> x.write(0, 0, 2));
        due.is(17, () -> x.write(0, 1, 2));
        due.is(0, () -> x.ahead(0, 0, 1));
        due.is(2, () -> x.used(0));
        due.about("unless it has one already, which a snapshot has as well");
        x.snapshot();
        due.is(18, () -> x.write(0, 0, 3));
        due.is(2, () -> x.used(0));
        due.is(19, () -> x.write(0, 1, 3));
        due.fails(Due.STATE, () -> x.write(0, 2, 3));
        due.about("a quota is 64 at first, which is all blocks");
        Inodery y = Disks.withAllBlocks();
        due.is(64, () -> y.used(0));
        due.is(64, () -> y.quota(0, 64));
        due.about("a quota is the owner's, whoever writes");
        Inodery z = Disks.withFiles(1);
        z.quota(0, 0);
        z.user(1);
        due.fails(Due.STATE, () -> z.write(0, 0, 1));
        z.quota(1, 0);
        z.quota(0, 1);
        due.is(16, () -> z.write(0, 0, 1));
        due.is(1, () -> z.used(0));
        due.is(0, () -> z.used(1));
    }

    private static void quotaTwice(Due due) {
        due.about("a block that two pages have counts twice");
        Inodery x = Disks.withFiles(3);
        x.write(0, 0, 1);
        x.damage(1, 2, 1);
        due.is(2, () -> x.used(0));
        x.quota(0, 2);
        due.fails(Due.STATE, () -> x.write(0, 1, 1));
        x.quota(0, 3);
        due.is(17, () -> x.write(0, 1, 1));
        due.about("a user has more than their quota by damage");
        x.damage(1, 3, 1);
        due.is(4, () -> x.used(0));
        due.fails(Due.STATE, () -> x.write(2, 1, 1));
        due.is(16, () -> x.write(2, 0, 1));
        due.about("a user's blocks are those of their open files without names as well");
        due.isFalse(x.remove(3));
        due.is(4, () -> x.used(0));
        due.isFalse(x.close(2));
        due.is(3, () -> x.used(0));
        due.isFalse(x.isFree(16));
    }

    private static void blocksOfSnapshots(Due due) {
        due.about("a page whose block a snapshot has as well gets a block");
        Inodery x = Disks.withFiles(1);
        x.ahead(0, 0, 1);
        x.write(0, 1, 5);
        x.snapshot();
        x.snapshot();
        due.is(18, () -> x.write(0, 1, 6));
        due.is(18, () -> x.write(0, 1, 7));
        due.is(19, () -> x.write(0, 0, 8));
        due.is(Inodery.WRITTEN, () -> x.page(1, 0, 0));
        due.is(2, () -> x.commit());
        due.is(5, () -> x.number(17));
        due.is(7, () -> x.number(18));
        due.is(8, () -> x.number(19));
        due.about("the block behind that of the page ahead of it comes first here as well");
        x.snapshot();
        due.is(20, () -> x.write(0, 1, 9));
        due.is(21, () -> x.write(0, 0, 9));
        due.is(20, () -> x.write(0, 1, 9));
        due.about("no snapshot has it as well any more");
        x.crash();
        x.open(1, true);
        x.drop(0);
        x.drop(1);
        due.is(20, () -> x.write(1, 1, 9));
        x.drop(2);
        x.crash();
        x.open(1, true);
        due.is(18, () -> x.write(2, 1, 9));
        due.is(19, () -> x.write(2, 0, 9));
    }

    private static void read(Due due) {
        due.about("15: no such handle or page");
        Inodery x = Disks.withFiles(1);
        x.open(1, false);
        x.close(0);
        due.outside(Due.INDEX, 0, 1, handle -> x.read(handle, 0));
        due.outside(Due.INDEX, 0, 15, page -> x.read(1, page));
        due.about("15: it is closed; no such page comes ahead of that");
        due.fails(Due.STATE, () -> x.read(0, 0));
        due.outside(Due.INDEX, 0, 15, page -> x.read(0, page));
        due.about("15: the number of a hole, and of a page ahead, whatever its block has");
        due.is(0, () -> x.read(1, 0));
        due.is(0, () -> x.read(1, 15));
        x.open(1, true);
        x.write(2, 15, 255);
        x.flush(1);
        due.is(255, () -> x.read(1, 15));
        x.cut(2, 15);
        due.is(0, () -> x.read(1, 15));
        x.ahead(2, 15, 15);
        due.is(255, () -> x.number(x.page(1, 15, 1)));
        due.is(0, () -> x.read(1, 15));
        due.about("15: the number in the cache, if it is dirty, that of its block if it is written");
        x.write(2, 15, 0);
        due.is(0, () -> x.read(1, 15));
        x.write(2, 15, 8);
        x.flush(1);
        x.write(2, 15, 9);
        due.is(9, () -> x.read(2, 15));
        due.is(8, () -> x.number(16));
        x.bad(16, true);
        x.flush(1);
        due.is(8, () -> x.read(2, 15));
    }

    private static void ahead(Due due) {
        due.about("16: how many got a block, by rising pages");
        Inodery x = Disks.withFiles(1);
        due.is(1, () -> x.ahead(0, 0, 0));
        due.is(1, () -> x.ahead(0, 15, 15));
        due.is(0, () -> x.ahead(0, 0, 0));
        due.is(14, () -> x.ahead(0, 0, 15));
        due.is(0, () -> x.ahead(0, 0, 15));
        due.is(16, () -> x.about(1, 4));
        due.is(16, () -> x.page(1, 0, 1));
        due.is(17, () -> x.page(1, 15, 1));
        due.is(18, () -> x.page(1, 1, 1));
        due.is(31, () -> x.page(1, 14, 1));
        due.about("16: each that is a hole, and no other, is ahead then");
        Inodery y = Disks.withFiles(1);
        y.write(0, 1, 7);
        due.is(2, () -> y.ahead(0, 0, 2));
        due.is(Inodery.AHEAD, () -> y.page(1, 0, 0));
        due.is(Inodery.WRITTEN, () -> y.page(1, 1, 0));
        due.is(Inodery.AHEAD, () -> y.page(1, 2, 0));
        due.is(Inodery.HOLE, () -> y.page(1, 3, 0));
        due.is(16, () -> y.page(1, 1, 1));
        due.is(7, () -> y.read(0, 1));
        due.is(1, () -> y.dirty());
    }

    private static void aheadRefused(Due due) {
        due.about("16: no such handle or page");
        Inodery x = Disks.withFiles(1);
        x.open(1, false);
        x.open(1, true);
        x.close(2);
        due.outside(Due.INDEX, 0, 2, handle -> x.ahead(handle, 0, 0));
        due.outside(Due.INDEX, 0, 2, handle -> x.ahead(handle, 1, 0));
        due.outside(Due.INDEX, 0, 15, first -> x.ahead(0, first, 15));
        due.outside(Due.INDEX, 0, 15, last -> x.ahead(0, 0, last));
        due.outside(Due.INDEX, 0, 15, page -> x.ahead(0, page, page));
        due.outside(Due.INDEX, 0, 15, last -> x.ahead(0, 15, last));
        due.outside(Due.INDEX, 0, 15, last -> x.ahead(2, 15, last));
        due.about("16: last is below first");
        due.fails(Due.ARGUMENT, () -> x.ahead(0, 1, 0));
        due.fails(Due.ARGUMENT, () -> x.ahead(0, 15, 0));
        due.fails(Due.ARGUMENT, () -> x.ahead(0, 15, 14));
        due.about("16: last is below first comes ahead of what is closed or only to read");
        due.fails(Due.ARGUMENT, () -> x.ahead(1, 15, 14));
        due.fails(Due.ARGUMENT, () -> x.ahead(2, 15, 14));
        due.about("16: it is closed, or only to read");
        due.fails(Due.STATE, () -> x.ahead(1, 0, 15));
        due.fails(Due.STATE, () -> x.ahead(2, 0, 0));
        due.is(16, () -> x.ahead(0, 0, 15));
        due.fails(Due.STATE, () -> x.ahead(1, 0, 15));
    }

    private static void aheadAtLimits(Due due) {
        due.about("16: there are not blocks for all, by the quota");
        Inodery x = Disks.withFiles(1);
        x.quota(0, 15);
        due.fails(Due.STATE, () -> x.ahead(0, 0, 15));
        due.is(0, () -> x.used(0));
        due.is(15, () -> x.ahead(0, 0, 14));
        due.fails(Due.STATE, () -> x.ahead(0, 0, 15));
        due.fails(Due.STATE, () -> x.ahead(0, 15, 15));
        due.is(0, () -> x.ahead(0, 0, 14));
        x.quota(0, 16);
        due.is(1, () -> x.ahead(0, 0, 15));
        due.about("16: there are not blocks for all, since none is free");
        Inodery y = Disks.withAllBlocks();
        y.file(5, 15);
        y.open(5, true);
        y.own(5, 1);
        due.fails(Due.STATE, () -> y.ahead(4, 0, 0));
        due.is(0, () -> y.ahead(0, 0, 15));
        y.cut(1, 14);
        due.fails(Due.STATE, () -> y.ahead(4, 0, 2));
        due.is(0, () -> y.about(5, 4));
        due.is(Inodery.HOLE, () -> y.page(5, 0, 0));
        due.is(2, () -> y.ahead(4, 0, 1));
        due.is(46, () -> y.page(5, 0, 1));
        due.is(47, () -> y.page(5, 1, 1));
    }

    private static void cut(Due due) {
        due.about("17: no such handle or page");
        Inodery x = Disks.withFiles(1);
        x.open(1, false);
        x.open(1, true);
        x.close(2);
        due.outside(Due.INDEX, 0, 2, handle -> x.cut(handle, 0));
        due.outside(Due.INDEX, 0, 15, page -> x.cut(0, page));
        due.outside(Due.INDEX, 0, 15, page -> x.cut(1, page));
        due.outside(Due.INDEX, 0, 15, page -> x.cut(2, page));
        due.about("17: it is closed, or only to read");
        due.fails(Due.STATE, () -> x.cut(1, 0));
        due.fails(Due.STATE, () -> x.cut(2, 15));
        due.about("17: how many pages became holes, from the first one on");
        due.is(0, () -> x.cut(0, 0));
        x.ahead(0, 0, 15);
        x.write(0, 14, 5);
        x.write(0, 15, 6);
        due.is(1, () -> x.cut(0, 15));
        due.is(1, () -> x.dirty());
        due.is(Inodery.WRITTEN, () -> x.page(1, 14, 0));
        due.is(Inodery.NONE, () -> x.page(1, 15, 1));
        due.is(0, () -> x.cut(0, 15));
        due.is(5, () -> x.cut(0, 10));
        due.is(0, () -> x.dirty());
        due.is(10, () -> x.cut(0, 0));
        due.is(0, () -> x.about(1, 4));
        for (int block = 16; block < 32; block++) {
            due.isTrue(x.isFree(block));
        }
        due.about("17: the state that is committed keeps what is cut");
        x.write(0, 0, 1);
        x.commit();
        due.is(1, () -> x.cut(0, 0));
        due.isFalse(x.isFree(16));
        due.is(17, () -> x.write(0, 0, 1));
    }

    private static void lock(Due due) {
        due.about("18: how many were not locked so by it");
        Inodery x = Disks.withFiles(1);
        due.is(1, () -> x.lock(0, 0, 0, false));
        due.is(1, () -> x.lock(0, 15, 15, true));
        due.is(15, () -> x.lock(0, 0, 15, false));
        due.is(0, () -> x.lock(0, 0, 15, false));
        due.about("18: each page that it had locked otherwise is locked so then");
        due.is(16, () -> x.lock(0, 0, 15, true));
        due.is(0, () -> x.lock(0, 0, 15, true));
        due.is(1, () -> x.lock(0, 7, 7, false));
        due.is(1, () -> x.lockOf(0, 7));
        due.is(2, () -> x.lockOf(0, 6));
        due.is(2, () -> x.lockOf(0, 8));
        due.is(1, () -> x.lock(0, 0, 15, true));
        due.about("a handle that is to read may lock to write");
        x.file(2, 15);
        x.open(2, false);
        due.is(16, () -> x.lock(1, 0, 15, true));
        due.is(2, () -> x.lockOf(1, 15));
    }

    private static void lockHindered(Due due) {
        due.about("a page that is locked to write by a handle cannot be locked by another one of the same file");
        Inodery x = Disks.withFiles(2);
        x.open(1, true);
        x.open(1, false);
        x.lock(0, 4, 6, true);
        due.fails(Due.STATE, () -> x.lock(2, 4, 4, true));
        due.fails(Due.STATE, () -> x.lock(2, 6, 6, false));
        due.fails(Due.STATE, () -> x.lock(2, 0, 4, false));
        due.fails(Due.STATE, () -> x.lock(3, 6, 15, true));
        due.fails(Due.STATE, () -> x.lock(3, 0, 15, false));
        due.is(0, () -> x.lockOf(2, 0) + x.lockOf(3, 15));
        due.is(4, () -> x.lock(2, 0, 3, true));
        due.is(9, () -> x.lock(2, 7, 15, false));
        due.about("nor one that is locked to read be locked to write");
        due.fails(Due.STATE, () -> x.lock(3, 7, 7, true));
        due.fails(Due.STATE, () -> x.lock(3, 15, 15, true));
        due.is(9, () -> x.lock(3, 7, 15, false));
        due.fails(Due.STATE, () -> x.lock(2, 7, 7, true));
        due.is(1, () -> x.lockOf(2, 7));
        due.fails(Due.STATE, () -> x.lock(0, 5, 7, true));
        due.is(2, () -> x.lockOf(0, 5));
        due.about("a page of another file hinders nothing");
        due.is(16, () -> x.lock(1, 0, 15, true));
    }

    private static void lockOfSame(Due due) {
        due.about("a handle's own locks do not hinder it");
        Inodery x = Disks.withFiles(1);
        x.open(1, true);
        x.lock(0, 0, 3, false);
        due.is(4, () -> x.lock(0, 0, 3, true));
        due.is(4, () -> x.lock(0, 0, 3, false));
        x.lock(1, 3, 3, false);
        due.fails(Due.STATE, () -> x.lock(0, 0, 3, true));
        due.is(3, () -> x.lock(0, 0, 2, true));
        due.is(1, () -> x.unlock(1, 3, 3));
        due.is(1, () -> x.lock(0, 0, 3, true));
        due.about("to close a handle unlocks all");
        due.fails(Due.STATE, () -> x.lock(1, 0, 0, false));
        due.isFalse(x.close(0));
        due.is(0, () -> x.lockOf(0, 0) + x.lockOf(0, 3));
        due.is(16, () -> x.lock(1, 0, 15, true));
        due.about("a crash closes all handles, and so unlocks all");
        x.commit();
        x.crash();
        due.is(0, () -> x.lockOf(1, 0) + x.lockOf(1, 15));
        due.is(2, () -> x.open(1, true));
        due.is(16, () -> x.lock(2, 0, 15, true));
    }

    private static void locksHinderLocksAlone(Due due) {
        due.about("locks hinder locks alone");
        Inodery x = Disks.withFiles(1);
        x.open(1, true);
        x.lock(0, 0, 15, true);
        due.is(16, () -> x.write(1, 0, 5));
        due.is(5, () -> x.read(1, 0));
        due.is(15, () -> x.ahead(1, 0, 15));
        due.is(16, () -> x.cut(1, 0));
        due.isFalse(x.sync(1));
        due.is(0, () -> x.unlock(1, 0, 15));
        due.isFalse(x.remove(1));
        due.isFalse(x.close(1));
        due.is(2, () -> x.lockOf(0, 15));
    }

    private static void unlock(Due due) {
        due.about("19: how many were locked by it");
        Inodery x = Disks.withFiles(1);
        due.is(0, () -> x.unlock(0, 0, 15));
        x.lock(0, 0, 15, false);
        x.lock(0, 8, 9, true);
        due.is(1, () -> x.unlock(0, 0, 0));
        due.is(1, () -> x.unlock(0, 15, 15));
        due.is(0, () -> x.unlock(0, 0, 0));
        due.is(2, () -> x.unlock(0, 7, 8));
        due.is(1, () -> x.lockOf(0, 6));
        due.is(2, () -> x.lockOf(0, 9));
        due.is(12, () -> x.unlock(0, 0, 15));
        due.is(0, () -> x.unlock(0, 0, 15));
        due.is(0, () -> x.lockOf(0, 9));
    }

    private static void lockRefused(Due due) {
        due.about("18, 19: no such handle or page");
        Inodery x = Disks.withFiles(1);
        x.open(1, true);
        x.close(1);
        due.outside(Due.INDEX, 0, 1, handle -> x.lock(handle, 0, 0, true));
        due.outside(Due.INDEX, 0, 1, handle -> x.lock(handle, 1, 0, true));
        due.outside(Due.INDEX, 0, 15, first -> x.lock(0, first, 15, false));
        due.outside(Due.INDEX, 0, 15, last -> x.lock(0, 0, last, true));
        due.outside(Due.INDEX, 0, 15, last -> x.lock(1, 15, last, true));
        due.outside(Due.INDEX, 0, 1, handle -> x.unlock(handle, 0, 0));
        due.outside(Due.INDEX, 0, 1, handle -> x.unlock(handle, 1, 0));
        due.outside(Due.INDEX, 0, 15, first -> x.unlock(0, first, 15));
        due.outside(Due.INDEX, 0, 15, last -> x.unlock(0, 0, last));
        due.outside(Due.INDEX, 0, 15, last -> x.unlock(1, 15, last));
        due.about("18, 19: last is below first, which comes ahead of what is closed");
        due.fails(Due.ARGUMENT, () -> x.lock(0, 1, 0, true));
        due.fails(Due.ARGUMENT, () -> x.lock(0, 15, 14, false));
        due.fails(Due.ARGUMENT, () -> x.lock(1, 15, 14, false));
        due.fails(Due.ARGUMENT, () -> x.unlock(0, 1, 0));
        due.fails(Due.ARGUMENT, () -> x.unlock(0, 15, 14));
        due.fails(Due.ARGUMENT, () -> x.unlock(1, 15, 14));
        due.about("18, 19: it is closed");
        due.fails(Due.STATE, () -> x.lock(1, 0, 15, true));
        due.fails(Due.STATE, () -> x.lock(1, 0, 0, false));
        due.fails(Due.STATE, () -> x.unlock(1, 0, 15));
        due.fails(Due.STATE, () -> x.unlock(1, 15, 15));
    }

    private static void lockOf(Due due) {
        due.about("20: no such handle or page");
        Inodery x = Disks.withFiles(1);
        due.outside(Due.INDEX, 0, 29, handle -> x.lockOf(handle, 0));
        due.fails(Due.INDEX, () -> x.lockOf(1, 0));
        due.outside(Due.INDEX, 0, 15, page -> x.lockOf(0, page));
        due.about("20: 0 not, 1 to read, 2 to write");
        x.lock(0, 0, 0, false);
        x.lock(0, 15, 15, true);
        due.is(1, () -> x.lockOf(0, 0));
        due.is(0, () -> x.lockOf(0, 1));
        due.is(0, () -> x.lockOf(0, 14));
        due.is(2, () -> x.lockOf(0, 15));
        due.about("20: a closed handle has locked nothing");
        x.close(0);
        due.is(0, () -> x.lockOf(0, 0));
        due.is(0, () -> x.lockOf(0, 15));
        due.outside(Due.INDEX, 0, 15, page -> x.lockOf(0, page));
    }
}

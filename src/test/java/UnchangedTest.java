import java.util.List;
import java.util.function.Supplier;

/** "A call of a method that throws an exception changes nothing": each exception of each method. */
public final class UnchangedTest {
    interface Refused {
        void call(Inodery x);
    }

    private final Due due;
    private Supplier<Inodery> maker;
    private List<String> seen;

    private UnchangedTest(Due due) {
        this.due = due;
    }

    public static void main(String[] args) {
        Due due = new Due("UnchangedTest");
        UnchangedTest test = new UnchangedTest(due);
        test.begin("names", UnchangedTest::busy);
        test.names();
        test.renames();
        test.begin("names, by another user", UnchangedTest::busyOfOther);
        test.namesOfOther();
        test.begin("open files", UnchangedTest::busy);
        test.openFiles();
        test.locks();
        test.begin("the disk", UnchangedTest::busy);
        test.disk();
        test.questions();
        test.begin("a full folder", UnchangedTest::fullFolder);
        test.fullFolderRefuses();
        test.begin("all things", Disks::withAllThings);
        test.allThingsRefuse();
        test.begin("all handles", UnchangedTest::allHandles);
        test.refused(Due.STATE, x -> x.open(1, true));
        test.begin("all snapshots", UnchangedTest::allSnapshots);
        test.refused(Due.STATE, x -> x.snapshot());
        test.begin("no block", UnchangedTest::noBlock);
        test.noBlockRefuses();
        test.begin("no quota", UnchangedTest::noQuota);
        test.noQuotaRefuses();
        due.end();
    }

    private void begin(String about, Supplier<Inodery> made) {
        due.about(about);
        maker = made;
        seen = Seen.of(made);
    }

    /** A refused call throws, and leaves all as if it had not been. */
    private void refused(Class<? extends RuntimeException> want, Refused refused) {
        Inodery x = maker.get();
        due.fails(want, () -> refused.call(x));
        List<String> then = Seen.of(() -> afterRefused(refused));
        for (int i = 0; i < seen.size() && i < then.size(); i++) {
            if (!seen.get(i).equals(then.get(i))) {
                due.about("seen was " + seen.get(i) + ", is " + then.get(i));
                break;
            }
        }
        due.isTrue(seen.equals(then));
    }

    private Inodery afterRefused(Refused refused) {
        Inodery x = maker.get();
        try {
            refused.call(x);
        } catch (RuntimeException e) {
            return x;
        }
        return x;
    }

    /**
     * The FOLDER 1 (1) with the FILE 102 (2) and the FOLDER 103 (5) with the FILE 10301 (6), the FILE 2 (3), the LINK 3
     * (4) to 102, the LINK 4 (7) to nothing, the empty FOLDER 5 (8), and the FILE 6 (9) that the user 2 has.
     */
    private static Inodery busy() {
        Inodery x = new Inodery();
        x.folder(1, 15);
        x.file(102, 14);
        x.file(2, 15);
        x.link(3, 102);
        x.folder(103, 13);
        x.file(10301, 15);
        x.link(4, 99);
        x.folder(5, 15);
        x.user(2);
        x.file(6, 8);
        x.user(0);
        x.hard(2, 104);
        x.open(102, true);
        x.open(2, true);
        x.open(2, false);
        x.open(6, true);
        x.open(10301, true);
        x.write(0, 0, 11);
        x.write(1, 0, 12);
        x.write(1, 15, 13);
        x.snapshot();
        x.bad(17, true);
        x.write(0, 0, 14);
        x.write(4, 0, 15);
        x.flush(1);
        x.ahead(3, 0, 2);
        x.write(3, 3, 16);
        x.write(1, 0, 17);
        x.lock(0, 0, 7, true);
        x.lock(1, 2, 3, false);
        x.lock(2, 3, 4, false);
        x.damage(0, 3, 0);
        x.quota(1, 5);
        x.quota(2, 9);
        x.close(3);
        x.rights(5, 6);
        return x;
    }

    private static Inodery busyOfOther() {
        Inodery x = busy();
        x.rights(0, 14);
        x.rights(1, 14);
        x.user(3);
        return x;
    }

    private void names() {
        refused(Due.INDEX, x -> x.user(4));
        refused(Due.INDEX, x -> x.user(-1));
        refused(Due.ARGUMENT, x -> x.file(0, 15));
        refused(Due.ARGUMENT, x -> x.file(9, 16));
        refused(Due.INDEX, x -> x.file(900, 15));
        refused(Due.INDEX, x -> x.file(201, 15));
        refused(Due.STATE, x -> x.file(102, 15));
        refused(Due.ARGUMENT, x -> x.folder(100000000, 15));
        refused(Due.INDEX, x -> x.folder(500, 15));
        refused(Due.STATE, x -> x.folder(3, 15));
        refused(Due.ARGUMENT, x -> x.link(9, -1));
        refused(Due.INDEX, x -> x.link(409, 1));
        refused(Due.STATE, x -> x.link(4, 1));
        refused(Due.ARGUMENT, x -> x.hard(2, 0));
        refused(Due.INDEX, x -> x.hard(9, 10));
        refused(Due.INDEX, x -> x.hard(2, 909));
        refused(Due.INDEX, x -> x.hard(2, 100));
        refused(Due.STATE, x -> x.hard(5, 9));
        refused(Due.STATE, x -> x.hard(2, 102));
        refused(Due.ARGUMENT, x -> x.remove(0));
        refused(Due.INDEX, x -> x.remove(9));
        refused(Due.STATE, x -> x.remove(1));
        refused(Due.ARGUMENT, x -> x.rights(2, 16));
        refused(Due.INDEX, x -> x.rights(4, 1));
        refused(Due.ARGUMENT, x -> x.own(-1, 1));
        refused(Due.INDEX, x -> x.own(2, 4));
        refused(Due.INDEX, x -> x.own(4, 1));
        refused(Due.ARGUMENT, x -> x.look(-1, true));
        refused(Due.INDEX, x -> x.look(4, true));
    }

    private void renames() {
        refused(Due.ARGUMENT, x -> x.rename(2, 0));
        refused(Due.INDEX, x -> x.rename(9, 2));
        refused(Due.INDEX, x -> x.rename(2, 909));
        refused(Due.INDEX, x -> x.rename(2, 500));
        refused(Due.STATE, x -> x.rename(1, 101));
        refused(Due.STATE, x -> x.rename(1, 10302));
        refused(Due.STATE, x -> x.rename(5, 2));
        refused(Due.STATE, x -> x.rename(5, 103));
        refused(Due.STATE, x -> x.rename(2, 5));
        refused(Due.STATE, x -> x.rename(3, 1));
    }

    private void namesOfOther() {
        refused(Due.STATE, x -> x.file(9, 15));
        refused(Due.STATE, x -> x.folder(109, 15));
        refused(Due.STATE, x -> x.link(9, 2));
        refused(Due.STATE, x -> x.hard(2, 9));
        refused(Due.STATE, x -> x.hard(2, 109));
        refused(Due.STATE, x -> x.rename(2, 109));
        refused(Due.STATE, x -> x.rename(2, 10309));
        refused(Due.STATE, x -> x.rename(10301, 9));
        refused(Due.STATE, x -> x.rename(10301, 2));
        refused(Due.STATE, x -> x.remove(2));
        refused(Due.STATE, x -> x.remove(102));
        refused(Due.STATE, x -> x.rights(2, 1));
        refused(Due.STATE, x -> x.own(2, 3));
        refused(Due.STATE, x -> x.open(6, false));
        refused(Due.STATE, x -> x.open(102, true));
    }

    private void openFiles() {
        refused(Due.ARGUMENT, x -> x.open(-1, true));
        refused(Due.INDEX, x -> x.open(4, true));
        refused(Due.STATE, x -> x.open(1, true));
        refused(Due.INDEX, x -> x.close(5));
        refused(Due.STATE, x -> x.close(3));
        refused(Due.INDEX, x -> x.write(0, 16, 1));
        refused(Due.INDEX, x -> x.write(5, 0, 1));
        refused(Due.ARGUMENT, x -> x.write(0, 0, 256));
        refused(Due.STATE, x -> x.write(2, 0, 1));
        refused(Due.STATE, x -> x.write(3, 0, 1));
        refused(Due.INDEX, x -> x.read(0, -1));
        refused(Due.STATE, x -> x.read(3, 0));
        refused(Due.INDEX, x -> x.ahead(0, 0, 16));
        refused(Due.ARGUMENT, x -> x.ahead(0, 5, 4));
        refused(Due.STATE, x -> x.ahead(2, 0, 15));
        refused(Due.STATE, x -> x.ahead(3, 0, 15));
        refused(Due.INDEX, x -> x.cut(0, 16));
        refused(Due.STATE, x -> x.cut(2, 0));
        refused(Due.STATE, x -> x.cut(3, 0));
        refused(Due.INDEX, x -> x.sync(5));
        refused(Due.STATE, x -> x.sync(3));
    }

    private void locks() {
        refused(Due.INDEX, x -> x.lock(0, 0, 16, true));
        refused(Due.ARGUMENT, x -> x.lock(0, 9, 8, true));
        refused(Due.STATE, x -> x.lock(3, 0, 15, true));
        refused(Due.STATE, x -> x.lock(1, 0, 15, true));
        refused(Due.STATE, x -> x.lock(2, 0, 2, true));
        refused(Due.INDEX, x -> x.unlock(0, -1, 15));
        refused(Due.ARGUMENT, x -> x.unlock(0, 7, 0));
        refused(Due.STATE, x -> x.unlock(3, 0, 15));
        refused(Due.INDEX, x -> x.lockOf(0, 16));
    }

    private void disk() {
        refused(Due.ARGUMENT, x -> x.flush(0));
        refused(Due.ARGUMENT, x -> x.flush(513));
        refused(Due.INDEX, x -> x.drop(1));
        refused(Due.INDEX, x -> x.drop(-1));
        refused(Due.ARGUMENT, x -> x.readOld(0, -1, 0));
        refused(Due.INDEX, x -> x.readOld(1, 2, 0));
        refused(Due.INDEX, x -> x.readOld(0, 9, 0));
        refused(Due.STATE, x -> x.readOld(0, 1, 0));
        refused(Due.INDEX, x -> x.quota(4, 1));
        refused(Due.ARGUMENT, x -> x.quota(1, 65));
        refused(Due.ARGUMENT, x -> x.quota(1, -1));
        refused(Due.INDEX, x -> x.bad(64, true));
        refused(Due.INDEX, x -> x.bad(-1, true));
        refused(Due.ARGUMENT, x -> x.damage(3, 2, 3));
        refused(Due.INDEX, x -> x.damage(0, 10, 0));
        refused(Due.INDEX, x -> x.damage(1, 2, 10));
        refused(Due.STATE, x -> x.damage(1, 2, 2));
        refused(Due.STATE, x -> x.damage(1, 2, 1));
        refused(Due.STATE, x -> x.damage(1, 1, 2));
        refused(Due.STATE, x -> x.damage(2, 8, 0));
        refused(Due.STATE, x -> x.damage(2, 2, 0));
        refused(Due.STATE, x -> x.check());
    }

    private void questions() {
        refused(Due.INDEX, x -> x.about(10, 0));
        refused(Due.ARGUMENT, x -> x.about(0, 7));
        refused(Due.INDEX, x -> x.entry(0, 8));
        refused(Due.INDEX, x -> x.target(10));
        refused(Due.INDEX, x -> x.page(2, 16, 0));
        refused(Due.ARGUMENT, x -> x.page(2, 0, 3));
        refused(Due.INDEX, x -> x.number(64));
        refused(Due.INDEX, x -> x.isFree(-1));
        refused(Due.INDEX, x -> x.used(4));
    }

    /** The FOLDER 1 with 8 FILEs, and the FILE 2 (10), which has the name 3 as well. */
    private static Inodery fullFolder() {
        Inodery x = new Inodery();
        x.folder(1, 15);
        for (int name = 1; name <= 8; name++) {
            x.file(100 + name, 15);
        }
        x.file(2, 15);
        x.hard(2, 3);
        return x;
    }

    private void fullFolderRefuses() {
        refused(Due.STATE, x -> x.file(109, 15));
        refused(Due.STATE, x -> x.folder(109, 15));
        refused(Due.STATE, x -> x.link(109, 1));
        refused(Due.STATE, x -> x.hard(2, 109));
        refused(Due.STATE, x -> x.rename(2, 109));
    }

    private void allThingsRefuse() {
        refused(Due.STATE, x -> x.file(401, 15));
        refused(Due.STATE, x -> x.folder(401, 15));
        refused(Due.STATE, x -> x.link(401, 1));
    }

    private static Inodery allHandles() {
        Inodery x = new Inodery();
        x.file(1, 15);
        for (int handle = 0; handle < 30; handle++) {
            x.open(1, true);
        }
        return x;
    }

    private static Inodery allSnapshots() {
        Inodery x = Disks.withFiles(2);
        x.write(0, 0, 1);
        for (int number = 0; number < 3; number++) {
            x.snapshot();
        }
        x.write(0, 0, 2);
        x.bad(17, true);
        x.file(3, 15);
        return x;
    }

    /** No block is free, and a snapshot has all but two. */
    private static Inodery noBlock() {
        Inodery x = Disks.withAllBlocks();
        x.file(5, 15);
        x.open(5, true);
        x.own(5, 1);
        x.cut(3, 14);
        x.write(0, 0, 1);
        x.snapshot();
        x.ahead(4, 1, 2);
        return x;
    }

    private void noBlockRefuses() {
        refused(Due.STATE, x -> x.write(0, 0, 2));
        refused(Due.STATE, x -> x.write(2, 15, 2));
        refused(Due.STATE, x -> x.write(4, 0, 2));
        refused(Due.STATE, x -> x.ahead(4, 0, 0));
        refused(Due.STATE, x -> x.ahead(4, 0, 15));
    }

    private static Inodery noQuota() {
        Inodery x = Disks.withFiles(1);
        x.write(0, 1, 1);
        x.quota(0, 3);
        return x;
    }

    private void noQuotaRefuses() {
        refused(Due.STATE, x -> x.ahead(0, 0, 3));
        refused(Due.STATE, x -> x.ahead(0, 0, 15));
        refused(Due.STATE, x -> x.ahead(0, 2, 4));
    }
}

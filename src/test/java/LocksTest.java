/** Promises 18 to 20: to lock and unlock pages, and what is told of that. */
public final class LocksTest {
    public static void main(String[] args) {
        Due due = new Due("LocksTest");
        locks(due);
        hindrances(due);
        unlocks(due);
        refused(due);
        endOfLocks(due);
        due.end();
    }

    private static Inodery withHandles() {
        Inodery x = new Inodery();
        x.file(1, 15);
        x.file(2, 15);
        x.open(1, true);
        x.open(1, false);
        x.open(2, false);
        return x;
    }

    private static void locks(Due due) {
        due.about("lock");
        Inodery x = withHandles();
        due.is(3, () -> x.lock(0, 2, 4, false));
        due.is(1, () -> x.lockOf(0, 2));
        due.is(0, () -> x.lockOf(0, 1));
        due.is(0, () -> x.lockOf(0, 5));
        due.is(0, () -> x.lockOf(1, 2));
        due.is(0, () -> x.lock(0, 2, 4, false));
        due.is(2, () -> x.lock(0, 4, 5, true));
        due.is(2, () -> x.lockOf(0, 4));
        due.is(1, () -> x.lockOf(0, 3));
        due.is(2, () -> x.lock(0, 1, 4, false));
        due.is(1, () -> x.lockOf(0, 4));
        due.is(2, () -> x.lockOf(0, 5));
        due.is(15, () -> x.lock(0, 0, 15, true));
        due.is(16, () -> x.lock(2, 0, 15, true));
        due.is(1, () -> x.lock(2, 15, 15, false));
        x.user(3);
        due.is(1, () -> x.lock(2, 0, 0, false));
    }

    private static void hindrances(Due due) {
        due.about("locks that hinder");
        Inodery x = withHandles();
        due.is(2, () -> x.lock(0, 0, 1, true));
        due.is(2, () -> x.lock(0, 3, 4, false));
        due.fails(Due.STATE, () -> x.lock(1, 1, 2, false));
        due.fails(Due.STATE, () -> x.lock(1, 1, 1, true));
        due.is(0, () -> x.lockOf(1, 2));
        due.fails(Due.STATE, () -> x.lock(1, 2, 3, true));
        due.is(2, () -> x.lock(1, 4, 5, false));
        due.is(1, () -> x.lock(1, 5, 6, false));
        due.fails(Due.STATE, () -> x.lock(0, 4, 4, true));
        due.is(1, () -> x.lockOf(0, 4));
        due.is(1, () -> x.lock(0, 3, 3, true));
        due.is(1, () -> x.lock(1, 2, 2, true));
        due.is(1, () -> x.lock(0, 1, 1, false));
        due.is(1, () -> x.lock(1, 1, 1, false));
        due.is(16, () -> x.write(0, 2, 7));
        due.is(7, () -> x.read(1, 0) + x.read(1, 2));
        due.is(1, () -> x.cut(0, 0));
    }

    private static void unlocks(Due due) {
        due.about("unlock");
        Inodery x = withHandles();
        x.lock(0, 2, 5, true);
        x.lock(0, 4, 4, false);
        x.lock(2, 0, 15, true);
        due.is(2, () -> x.unlock(0, 0, 3));
        due.is(0, () -> x.unlock(0, 0, 3));
        due.is(0, () -> x.lockOf(0, 2));
        due.is(1, () -> x.lockOf(0, 4));
        due.is(2, () -> x.lockOf(0, 5));
        due.is(2, () -> x.lockOf(2, 2));
        due.is(4, () -> x.lock(1, 0, 3, true));
        due.is(2, () -> x.unlock(0, 3, 15));
        due.is(0, () -> x.unlock(0, 0, 15));
        due.is(2, () -> x.lockOf(1, 3));
        due.is(15, () -> x.unlock(2, 0, 14));
    }

    private static void refused(Due due) {
        due.about("lock refused");
        Inodery x = withHandles();
        x.close(2);
        due.fails(Due.INDEX, () -> x.lock(3, 0, 0, true));
        due.fails(Due.INDEX, () -> x.lock(-1, 0, 0, true));
        due.fails(Due.INDEX, () -> x.lock(0, -1, 0, true));
        due.fails(Due.INDEX, () -> x.lock(0, 16, 16, true));
        due.fails(Due.INDEX, () -> x.lock(0, 0, 16, true));
        due.fails(Due.INDEX, () -> x.lock(0, 0, -1, true));
        due.fails(Due.ARGUMENT, () -> x.lock(0, 3, 2, true));
        due.fails(Due.ARGUMENT, () -> x.lock(2, 3, 2, true));
        due.fails(Due.STATE, () -> x.lock(2, 3, 3, true));
        due.fails(Due.INDEX, () -> x.unlock(3, 0, 0));
        due.fails(Due.INDEX, () -> x.unlock(0, -1, 0));
        due.fails(Due.INDEX, () -> x.unlock(0, 16, 16));
        due.fails(Due.INDEX, () -> x.unlock(0, 0, 16));
        due.fails(Due.INDEX, () -> x.unlock(0, 0, -1));
        due.fails(Due.ARGUMENT, () -> x.unlock(0, 3, 2));
        due.fails(Due.ARGUMENT, () -> x.unlock(2, 3, 2));
        due.fails(Due.STATE, () -> x.unlock(2, 3, 3));
        due.fails(Due.INDEX, () -> x.lockOf(3, 0));
        due.fails(Due.INDEX, () -> x.lockOf(-1, 0));
        due.fails(Due.INDEX, () -> x.lockOf(0, 16));
        due.fails(Due.INDEX, () -> x.lockOf(0, -1));
        due.is(0, () -> x.lockOf(2, 3));
    }

    private static void endOfLocks(Due due) {
        due.about("end of locks");
        Inodery x = withHandles();
        x.commit();
        x.lock(0, 0, 15, true);
        due.fails(Due.STATE, () -> x.lock(1, 7, 7, false));
        x.close(0);
        for (int page = 0; page < 16; page++) {
            int each = page;
            due.is(0, () -> x.lockOf(0, each));
        }
        due.is(1, () -> x.lock(1, 7, 7, true));
        x.crash();
        due.is(0, () -> x.lockOf(1, 7));
        due.is(3, () -> x.open(1, true));
        due.is(16, () -> x.lock(3, 0, 15, true));
    }
}

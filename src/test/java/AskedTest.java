/** Promises 32 to 39: what is asked of the state of now. */
public final class AskedTest {
    public static void main(String[] args) {
        Due due = new Due("AskedTest");
        abouts(due);
        entries(due);
        targets(due);
        pages(due);
        numbers(due);
        freeBlocks(due);
        usedAndDirty(due);
        due.end();
    }

    private static Inodery withThings() {
        Inodery x = new Inodery();
        x.user(1);
        x.file(1, 10);
        x.user(2);
        x.folder(2, 9);
        x.link(3, 77);
        x.user(0);
        x.open(1, true);
        return x;
    }

    private static void abouts(Due due) {
        due.about("about");
        Inodery x = withThings();
        int[][] wanted = {{1, 0, 15, 0, 3, 0, 0}, {0, 1, 10, 1, 0, 1, 0}, {1, 2, 9, 1, 0, 0, 0}, {2, 2, 15, 1, 0, 0, 0}};
        for (int thing = 0; thing < 4; thing++) {
            for (int what = 0; what < 7; what++) {
                int each = thing;
                int of = what;
                due.is(wanted[thing][what], () -> x.about(each, of));
            }
        }
        due.fails(Due.INDEX, () -> x.about(4, 0));
        due.fails(Due.INDEX, () -> x.about(4, 9));
        due.fails(Due.INDEX, () -> x.about(-1, 0));
        due.fails(Due.INDEX, () -> x.about(32, 0));
        due.fails(Due.ARGUMENT, () -> x.about(0, 7));
        due.fails(Due.ARGUMENT, () -> x.about(1, -1));
        x.ahead(0, 3, 5);
        x.write(0, 9, 1);
        x.open(1, false);
        due.is(4, () -> x.about(1, 4));
        due.is(2, () -> x.about(1, 5));
        x.bad(x.page(1, 9, 1), true);
        x.flush(1);
        due.is(1, () -> x.about(1, 6));
    }

    private static void entries(Due due) {
        due.about("entry");
        Inodery x = new Inodery();
        x.file(50, 15);
        x.file(99, 15);
        x.file(1, 15);
        x.file(7, 15);
        due.is(301, () -> x.entry(0, 0));
        due.is(407, () -> x.entry(0, 1));
        due.is(150, () -> x.entry(0, 2));
        due.is(299, () -> x.entry(0, 3));
        due.fails(Due.INDEX, () -> x.entry(0, 4));
        due.fails(Due.INDEX, () -> x.entry(0, -1));
        due.fails(Due.INDEX, () -> x.entry(1, 0));
        due.fails(Due.INDEX, () -> x.entry(5, 0));
        due.fails(Due.INDEX, () -> x.entry(-1, 0));
        x.remove(7);
        due.is(150, () -> x.entry(0, 1));
        x.rename(99, 2);
        due.is(202, () -> x.entry(0, 1));
        due.fails(Due.INDEX, () -> x.entry(0, 3));
        x.folder(3, 15);
        due.fails(Due.INDEX, () -> x.entry(4, 0));
    }

    private static void targets(Due due) {
        due.about("target");
        Inodery x = withThings();
        due.is(77, () -> x.target(3));
        due.is(Inodery.NONE, () -> x.target(0));
        due.is(Inodery.NONE, () -> x.target(1));
        due.is(Inodery.NONE, () -> x.target(2));
        due.fails(Due.INDEX, () -> x.target(4));
        due.fails(Due.INDEX, () -> x.target(-1));
    }

    private static void pages(Due due) {
        due.about("page");
        Inodery x = withThings();
        x.write(0, 0, 5);
        x.ahead(0, 15, 15);
        int[][] wanted = {{2, 16, 1}, {0, -1, 0}, {1, 17, 0}};
        for (int i = 0; i < 3; i++) {
            int page = new int[] {0, 1, 15}[i];
            for (int what = 0; what < 3; what++) {
                int of = what;
                due.is(wanted[i][what], () -> x.page(1, page, of));
            }
        }
        x.flush(1);
        due.is(0, () -> x.page(1, 0, 2));
        due.is(Inodery.WRITTEN, () -> x.page(1, 0, 0));
        due.fails(Due.INDEX, () -> x.page(4, 0, 0));
        due.fails(Due.INDEX, () -> x.page(-1, 0, 3));
        due.fails(Due.INDEX, () -> x.page(1, 16, 0));
        due.fails(Due.INDEX, () -> x.page(1, -1, 3));
        due.fails(Due.ARGUMENT, () -> x.page(1, 0, 3));
        due.fails(Due.ARGUMENT, () -> x.page(1, 0, -1));
        due.is(Inodery.HOLE, () -> x.page(2, 0, 0));
        due.is(Inodery.NONE, () -> x.page(3, 0, 1));
        due.is(0, () -> x.page(0, 0, 2));
    }

    private static void numbers(Due due) {
        due.about("number");
        Inodery x = withThings();
        x.write(0, 0, 255);
        due.is(0, () -> x.number(16));
        x.flush(1);
        due.is(255, () -> x.number(16));
        x.cut(0, 0);
        due.is(255, () -> x.number(16));
        due.is(0, () -> x.number(0));
        due.is(0, () -> x.number(63));
        due.fails(Due.INDEX, () -> x.number(64));
        due.fails(Due.INDEX, () -> x.number(-1));
    }

    private static void freeBlocks(Due due) {
        due.about("isFree");
        Inodery x = withThings();
        due.isTrue(x.isFree(16));
        x.write(0, 0, 1);
        due.isFalse(x.isFree(16));
        x.cut(0, 0);
        due.isTrue(x.isFree(16));
        x.write(0, 0, 1);
        x.commit();
        x.cut(0, 0);
        due.isFalse(x.isFree(16));
        x.commit();
        due.isTrue(x.isFree(16));
        x.write(0, 0, 1);
        x.snapshot();
        x.cut(0, 0);
        x.commit();
        due.isFalse(x.isFree(16));
        due.is(1, () -> x.drop(0));
        due.isTrue(x.isFree(16));
        due.isTrue(x.isFree(0));
        due.isTrue(x.isFree(63));
        x.bad(63, true);
        due.isTrue(x.isFree(63));
        due.fails(Due.INDEX, () -> x.isFree(64));
        due.fails(Due.INDEX, () -> x.isFree(-1));
    }

    private static void usedAndDirty(Due due) {
        due.about("used, dirty");
        Inodery x = withThings();
        x.write(0, 0, 1);
        x.write(0, 0, 2);
        x.ahead(0, 1, 3);
        due.is(4, () -> x.used(1));
        due.is(0, () -> x.used(0));
        due.is(0, () -> x.used(3));
        due.is(1, () -> x.dirty());
        x.own(1, 3);
        due.is(4, () -> x.used(3));
        due.is(0, () -> x.used(1));
        due.fails(Due.INDEX, () -> x.used(-1));
        due.fails(Due.INDEX, () -> x.used(4));
        x.remove(1);
        due.is(4, () -> x.used(3));
        due.is(1, () -> x.dirty());
        x.snapshot();
        due.is(0, () -> x.dirty());
        x.close(0);
        due.is(0, () -> x.used(3));
        due.isFalse(x.isFree(16));
    }
}

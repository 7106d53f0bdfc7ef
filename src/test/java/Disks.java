/** Objects with which tests begin. */
final class Disks {
    private Disks() {
    }

    /** The FILEs 1, 2 and so on, with the paths of their numbers, each opened to write, by the handles 0, 1 and so on. */
    static Inodery withFiles(int many) {
        Inodery x = new Inodery();
        for (int i = 1; i <= many; i++) {
            x.file(i, 15);
            x.open(i, true);
        }
        return x;
    }
}

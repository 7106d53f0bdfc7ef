/** Objects with which tests begin. */
final class Disks {
    private Disks() {
    }

    /** The FILEs 1, 2 and so on, with the paths of their numbers, each opened to write, by the handles 0, 1 and so on. */
    static Inodery withFiles(int many) {
        Inodery x = new Inodery();
        for (int i = 1; i <= many; i++) {
            x.file(i, 15);
            x.open(i, true);
        }
        return x;
    }

    /**
     * All 32 things: the FOLDERs 1 to 7, with the paths of their numbers, and in each of the first three the FILEs
     * of the names 1 to 8, which are the things 8 to 31. Root has room for one entry, the FOLDERs 4 to 7 are empty.
     */
    static Inodery withAllThings() {
        Inodery x = new Inodery();
        for (int name = 1; name <= 7; name++) {
            x.folder(name, 15);
        }
        for (int i = 0; i < 24; i++) {
            x.file(101 + 100 * (i / 8) + i % 8, 15);
        }
        return x;
    }

    /** All blocks taken by the FILEs 1 to 4, opened to write by the handles 0 to 3; all is still to be committed. */
    static Inodery withAllBlocks() {
        Inodery x = withFiles(4);
        for (int handle = 0; handle < 4; handle++) {
            x.ahead(handle, 0, 15);
        }
        return x;
    }
}

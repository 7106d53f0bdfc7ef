/**
 * A file system with everything that can befall one: blocks in groups, pages that are holes, folders,
 * links, rights, quotas, locks, a cache, commits, crashes, snapshots, damage and a checker.
 * The document's promises say what each public method does.
 */
public final class Inodery {
    public static final int NONE = -1;
    public static final int FILE = 0, FOLDER = 1, LINK = 2;
    public static final int HOLE = 0, AHEAD = 1, WRITTEN = 2;

    private static final int ROOT = 0;
    private static final int THINGS = 32, ENTRIES = 8, PAGES = 16;
    private static final int BLOCKS = 64, GROUPS = 4, GROUP_SIZE = 16;
    private static final int USERS = 4, HANDLES = 30, SNAPSHOTS = 3;
    private static final int LAST_PATH = 99999999, NAME_STEP = 100, MOST_LINKS = 4;
    private static final int ALL_RIGHTS = 15, LAST_NUMBER = 255, MOST_FLUSHED = THINGS * PAGES;
    private static final int OWNER_READS = 8, OWNER_WRITES = 4, OTHERS_READ = 2, OTHERS_WRITE = 1;
    private static final int UNLOCKED = 0, LOCKED_TO_READ = 1, LOCKED_TO_WRITE = 2;

    private final Tree now = new Tree();
    private final Tree committed = new Tree();
    private final Tree[] snapshots = new Tree[SNAPSHOTS];
    private final boolean[] isGiven = new boolean[SNAPSHOTS];
    private final Walk walk = new Walk();
    private final Disk disk = new Disk();
    private final Cache cache = new Cache();
    private final Handles handles = new Handles();
    private final Checker checker = new Checker();
    private final int[] quotas = new int[USERS];
    private int userOfNow = 0;

    public Inodery() {
        for (int i = 0; i < SNAPSHOTS; i++) {
            snapshots[i] = new Tree();
        }
        for (int i = 0; i < USERS; i++) {
            quotas[i] = BLOCKS;
        }
    }

    // ---- users, names

    public int user(int user) throws IndexOutOfBoundsException {
        if (!isUser(user)) {
            throw new IndexOutOfBoundsException("no such user");
        }
        int before = userOfNow;
        userOfNow = user;
        return before;
    }

    public int file(int path, int rights)
            throws IllegalArgumentException, IndexOutOfBoundsException, IllegalStateException {
        return makeThing(FILE, path, rights, 0);
    }

    public int folder(int path, int rights)
            throws IllegalArgumentException, IndexOutOfBoundsException, IllegalStateException {
        return makeThing(FOLDER, path, rights, 0);
    }

    public int link(int path, int target)
            throws IllegalArgumentException, IndexOutOfBoundsException, IllegalStateException {
        return makeThing(LINK, path, ALL_RIGHTS, target);
    }

    public int hard(int path, int to)
            throws IllegalArgumentException, IndexOutOfBoundsException, IllegalStateException {
        if (!isNewPath(path) || !isNewPath(to)) {
            throw new IllegalArgumentException("path or to is out of range");
        }
        int thing = walk.thingAt(now, path, false);
        int folder = folderAhead(to);
        int name = to % NAME_STEP;
        if (thing == NONE || folder == NONE || name == 0) {
            throw new IndexOutOfBoundsException("no such thing or folder");
        }
        if (now.isOfKind(thing, FOLDER) || !canTakeNewName(folder, name)) {
            throw new IllegalStateException("a folder, or no new name there");
        }
        now.putEntry(folder, name, thing);
        now.setCount(thing, now.countOf(thing) + 1);
        return now.countOf(thing);
    }

    public int rename(int from, int to)
            throws IllegalArgumentException, IndexOutOfBoundsException, IllegalStateException {
        if (!isNewPath(from) || !isNewPath(to)) {
            throw new IllegalArgumentException("from or to is out of range");
        }
        int source = folderAhead(from);
        int thing = now.thingNamed(source, from % NAME_STEP);
        int goal = folderAhead(to);
        int name = to % NAME_STEP;
        if (thing == NONE || goal == NONE || name == 0) {
            throw new IndexOutOfBoundsException("no such thing or folder");
        }
        int there = now.thingNamed(goal, name);
        if (there == thing) {
            return thing;
        }
        if (!canComeTo(thing, goal, there) || !hasRoomFor(source, goal, there)
                || !mayWrite(source) || !mayWrite(goal)) {
            throw new IllegalStateException("the thing cannot have that name");
        }
        now.takeEntry(source, from % NAME_STEP);
        if (there != NONE) {
            now.takeEntry(goal, name);
            loseName(there);
        }
        now.putEntry(goal, name, thing);
        return thing;
    }

    public boolean remove(int path)
            throws IllegalArgumentException, IndexOutOfBoundsException, IllegalStateException {
        if (!isNewPath(path)) {
            throw new IllegalArgumentException("path is out of range");
        }
        int folder = folderAhead(path);
        int name = path % NAME_STEP;
        int thing = now.thingNamed(folder, name);
        if (thing == NONE) {
            throw new IndexOutOfBoundsException("no such thing");
        }
        if (now.sizeOf(thing) > 0 || !mayWrite(folder)) {
            throw new IllegalStateException("a folder with entries, or the user may not");
        }
        now.takeEntry(folder, name);
        return loseName(thing);
    }

    public int rights(int path, int rights)
            throws IllegalArgumentException, IndexOutOfBoundsException, IllegalStateException {
        if (!isPath(path) || !isRights(rights)) {
            throw new IllegalArgumentException("path or rights is out of range");
        }
        int thing = walk.thingAt(now, path, true);
        if (thing == NONE) {
            throw new IndexOutOfBoundsException("no such thing");
        }
        if (userOfNow != 0 && userOfNow != now.ownerOf(thing)) {
            throw new IllegalStateException("neither the user 0 nor the owner");
        }
        int before = now.rightsOf(thing);
        now.setRights(thing, rights);
        return before;
    }

    public int own(int path, int owner)
            throws IllegalArgumentException, IndexOutOfBoundsException, IllegalStateException {
        if (!isPath(path)) {
            throw new IllegalArgumentException("path is out of range");
        }
        int thing = walk.thingAt(now, path, true);
        if (thing == NONE || !isUser(owner)) {
            throw new IndexOutOfBoundsException("no such thing or user");
        }
        if (userOfNow != 0) {
            throw new IllegalStateException("not the user 0");
        }
        int before = now.ownerOf(thing);
        now.setOwner(thing, owner);
        return before;
    }

    public int look(int path, boolean isFollowed)
            throws IllegalArgumentException, IndexOutOfBoundsException {
        if (!isPath(path)) {
            throw new IllegalArgumentException("path is out of range");
        }
        int thing = walk.thingAt(now, path, isFollowed);
        if (thing == NONE) {
            throw new IndexOutOfBoundsException("no such thing");
        }
        return thing;
    }

    // ---- open files

    public int open(int path, boolean isWriting)
            throws IllegalArgumentException, IndexOutOfBoundsException, IllegalStateException {
        if (!isPath(path)) {
            throw new IllegalArgumentException("path is out of range");
        }
        int thing = walk.thingAt(now, path, true);
        if (thing == NONE) {
            throw new IndexOutOfBoundsException("no such thing");
        }
        if (!now.isOfKind(thing, FILE) || !mayRead(thing) || (isWriting && !mayWrite(thing))
                || handles.isSpent()) {
            throw new IllegalStateException("no file, not allowed, or no handle left");
        }
        return handles.give(thing, isWriting);
    }

    public boolean close(int handle) throws IndexOutOfBoundsException, IllegalStateException {
        demandHandle(handle);
        demandOpen(handle);
        int thing = handles.thingOf(handle);
        boolean hadError = cache.tellError(thing);
        handles.shut(handle);
        if (now.countOf(thing) == 0) {
            goneUnlessOpen(thing);
        }
        return hadError;
    }

    public int write(int handle, int page, int number)
            throws IndexOutOfBoundsException, IllegalArgumentException, IllegalStateException {
        demandHandleAndPage(handle, page);
        if (number < 0 || number > LAST_NUMBER) {
            throw new IllegalArgumentException("number is out of range");
        }
        demandWriting(handle);
        int thing = handles.thingOf(handle);
        int block = blockToWrite(thing, page);
        if (block == NONE) {
            throw new IllegalStateException("no block for the page");
        }
        now.setPage(thing, page, WRITTEN, block);
        cache.put(thing, page, number);
        return block;
    }

    public int read(int handle, int page) throws IndexOutOfBoundsException, IllegalStateException {
        demandHandleAndPage(handle, page);
        demandOpen(handle);
        int thing = handles.thingOf(handle);
        if (cache.isDirty(thing, page)) {
            return cache.numberOf(thing, page);
        }
        return writtenNumber(now, thing, page);
    }

    public int ahead(int handle, int first, int last)
            throws IndexOutOfBoundsException, IllegalArgumentException, IllegalStateException {
        demandHandleAndPages(handle, first, last);
        demandWriting(handle);
        int thing = handles.thingOf(handle);
        int holes = now.holesOf(thing, first, last);
        if (holes > 0 && (!isWithinQuota(thing, holes) || holes > countOfUnused())) {
            throw new IllegalStateException("not blocks for all");
        }
        for (int page = first; page <= last && page < PAGES; page++) {
            if (now.pageKindOf(thing, page) == HOLE) {
                now.setPage(thing, page, AHEAD, blockFor(thing, page));
            }
        }
        return holes;
    }

    public int cut(int handle, int page) throws IndexOutOfBoundsException, IllegalStateException {
        demandHandleAndPage(handle, page);
        demandWriting(handle);
        int thing = handles.thingOf(handle);
        int many = 0;
        for (int each = page; each < PAGES; each++) {
            if (now.pageKindOf(thing, each) != HOLE) {
                now.setPage(thing, each, HOLE, NONE);
                cache.letGo(thing, each);
                many++;
            }
        }
        return many;
    }

    public int lock(int handle, int first, int last, boolean isWriting)
            throws IndexOutOfBoundsException, IllegalArgumentException, IllegalStateException {
        demandHandleAndPages(handle, first, last);
        demandOpen(handle);
        int how = isWriting ? LOCKED_TO_WRITE : LOCKED_TO_READ;
        if (handles.isHindered(handle, first, last, how)) {
            throw new IllegalStateException("another handle has locked a page");
        }
        int before = handles.countLocked(handle, first, last, how);
        handles.setLocks(handle, first, last, how);
        return last - first + 1 - before;
    }

    public int unlock(int handle, int first, int last)
            throws IndexOutOfBoundsException, IllegalArgumentException, IllegalStateException {
        demandHandleAndPages(handle, first, last);
        demandOpen(handle);
        int before = handles.countLocked(handle, first, last, UNLOCKED);
        handles.setLocks(handle, first, last, UNLOCKED);
        return last - first + 1 - before;
    }

    public int lockOf(int handle, int page) throws IndexOutOfBoundsException {
        demandHandleAndPage(handle, page);
        return handles.lockAt(handle, page);
    }

    // ---- the disk

    public int flush(int many) throws IllegalArgumentException {
        if (many < 1 || many > MOST_FLUSHED) {
            throw new IllegalArgumentException("many is out of range");
        }
        return flushFirst(many);
    }

    public boolean sync(int handle) throws IndexOutOfBoundsException, IllegalStateException {
        demandHandle(handle);
        demandOpen(handle);
        int thing = handles.thingOf(handle);
        flushThing(thing, PAGES);
        commitAll();
        return cache.tellError(thing);
    }

    public int commit() {
        return commitAll();
    }

    public int crash() {
        int lost = cache.count();
        now.becomeLike(committed);
        cache.forgetAll();
        handles.shutAll();
        for (int thing = 0; thing < THINGS; thing++) {
            if (now.isOfKind(thing, FILE) && now.countOf(thing) == 0) {
                now.clearThing(thing);
            }
        }
        return lost;
    }

    public int snapshot() throws IllegalStateException {
        int given = lowestNotGiven();
        if (given == NONE) {
            throw new IllegalStateException("there are 3 snapshots");
        }
        commitAll();
        snapshots[given].becomeLike(now);
        isGiven[given] = true;
        return given;
    }

    public int drop(int snapshot) throws IndexOutOfBoundsException {
        if (!isSnapshot(snapshot)) {
            throw new IndexOutOfBoundsException("no such snapshot");
        }
        int before = countOfUnused();
        isGiven[snapshot] = false;
        return countOfUnused() - before;
    }

    public int readOld(int snapshot, int path, int page)
            throws IllegalArgumentException, IndexOutOfBoundsException, IllegalStateException {
        if (!isPath(path)) {
            throw new IllegalArgumentException("path is out of range");
        }
        if (!isSnapshot(snapshot) || !isPage(page)) {
            throw new IndexOutOfBoundsException("no such snapshot or page");
        }
        Tree old = snapshots[snapshot];
        int thing = walk.thingAt(old, path, true);
        if (thing == NONE) {
            throw new IndexOutOfBoundsException("no such thing in the snapshot");
        }
        if (!old.isOfKind(thing, FILE)) {
            throw new IllegalStateException("no file in the snapshot");
        }
        return writtenNumber(old, thing, page);
    }

    public int quota(int user, int blocks) throws IndexOutOfBoundsException, IllegalArgumentException {
        if (!isUser(user)) {
            throw new IndexOutOfBoundsException("no such user");
        }
        if (blocks < 0 || blocks > BLOCKS) {
            throw new IllegalArgumentException("blocks is out of range");
        }
        int before = quotas[user];
        quotas[user] = blocks;
        return before;
    }

    public boolean bad(int block, boolean isBad) throws IndexOutOfBoundsException {
        demandBlock(block);
        boolean before = disk.isBad(block);
        disk.setBad(block, isBad);
        return before;
    }

    public void damage(int what, int thing, int other)
            throws IllegalArgumentException, IndexOutOfBoundsException, IllegalStateException {
        if (what < 0 || what > 2) {
            throw new IllegalArgumentException("what is out of range");
        }
        demandThing(thing);
        if (what == 0) {
            now.setCount(thing, now.countOf(thing) + 1);
        } else if (what == 1) {
            demandThing(other);
            shareFirstPage(thing, other);
        } else {
            loseFirstEntry(thing);
        }
    }

    public int check() throws IllegalStateException {
        if (handles.isAnyOpen()) {
            throw new IllegalStateException("a handle is open");
        }
        int pages = checker.mendPages(now, cache);
        int things = checker.mendThings(now, cache);
        int counts = checker.mendCounts(now);
        return 10000 * pages + 100 * things + counts;
    }

    // ---- what is asked, of the state of now

    public int about(int thing, int what) throws IndexOutOfBoundsException, IllegalArgumentException {
        demandThing(thing);
        switch (what) {
            case 0:
                return now.kindOf(thing);
            case 1:
                return now.ownerOf(thing);
            case 2:
                return now.rightsOf(thing);
            case 3:
                return now.countOf(thing);
            case 4:
                return now.isOfKind(thing, FOLDER) ? now.sizeOf(thing) : now.filledOf(thing);
            case 5:
                return handles.countOf(thing);
            case 6:
                return cache.hasError(thing) ? 1 : 0;
            default:
                throw new IllegalArgumentException("what is out of range");
        }
    }

    public int entry(int thing, int place) throws IndexOutOfBoundsException {
        demandThing(thing);
        if (place < 0 || place >= now.sizeOf(thing)) {
            throw new IndexOutOfBoundsException("no such entry");
        }
        return 100 * now.entryThing(thing, place) + now.entryName(thing, place);
    }

    public int target(int thing) throws IndexOutOfBoundsException {
        demandThing(thing);
        return now.isOfKind(thing, LINK) ? now.pathOf(thing) : NONE;
    }

    public int page(int thing, int page, int what) throws IndexOutOfBoundsException, IllegalArgumentException {
        demandThing(thing);
        if (!isPage(page)) {
            throw new IndexOutOfBoundsException("no such page");
        }
        switch (what) {
            case 0:
                return now.pageKindOf(thing, page);
            case 1:
                return now.blockOf(thing, page);
            case 2:
                return cache.isDirty(thing, page) ? 1 : 0;
            default:
                throw new IllegalArgumentException("what is out of range");
        }
    }

    public int number(int block) throws IndexOutOfBoundsException {
        demandBlock(block);
        return disk.numberOf(block);
    }

    public boolean isFree(int block) throws IndexOutOfBoundsException {
        demandBlock(block);
        return isUnused(block);
    }

    public int used(int user) throws IndexOutOfBoundsException {
        if (!isUser(user)) {
            throw new IndexOutOfBoundsException("no such user");
        }
        return now.blocksOf(user);
    }

    public int dirty() {
        return cache.count();
    }

    // ---- what is demanded of arguments

    private static boolean isUser(int user) {
        return user >= 0 && user < USERS;
    }

    private static boolean isRights(int rights) {
        return rights >= 0 && rights <= ALL_RIGHTS;
    }

    private static boolean isPath(int path) {
        return path >= 0 && path <= LAST_PATH;
    }

    private static boolean isNewPath(int path) {
        return path >= 1 && path <= LAST_PATH;
    }

    private static boolean isPage(int page) {
        return page >= 0 && page < PAGES;
    }

    private boolean isSnapshot(int snapshot) {
        return snapshot >= 0 && snapshot < SNAPSHOTS && isGiven[snapshot];
    }

    private static void demandBlock(int block) {
        if (block < 0 || block >= BLOCKS) {
            throw new IndexOutOfBoundsException("no such block");
        }
    }

    private void demandThing(int thing) {
        if (!now.isThing(thing)) {
            throw new IndexOutOfBoundsException("no such thing");
        }
    }

    private void demandHandle(int handle) {
        if (!handles.isHandle(handle)) {
            throw new IndexOutOfBoundsException("no such handle");
        }
    }

    private void demandHandleAndPage(int handle, int page) {
        demandHandle(handle);
        if (!isPage(page)) {
            throw new IndexOutOfBoundsException("no such page");
        }
    }

    private void demandHandleAndPages(int handle, int first, int last) {
        demandHandleAndPage(handle, first);
        demandHandleAndPage(handle, last);
        if (last < first) {
            throw new IllegalArgumentException("last is below first");
        }
    }

    private void demandOpen(int handle) {
        if (!handles.isOpen(handle)) {
            throw new IllegalStateException("the handle is closed");
        }
    }

    private void demandWriting(int handle) {
        demandOpen(handle);
        if (!handles.isToWrite(handle)) {
            throw new IllegalStateException("the handle is only to read");
        }
    }

    // ---- rights

    private boolean mayRead(int thing) {
        return may(thing, OWNER_READS, OTHERS_READ);
    }

    private boolean mayWrite(int thing) {
        return may(thing, OWNER_WRITES, OTHERS_WRITE);
    }

    private boolean may(int thing, int ofOwner, int ofOthers) {
        int needed = userOfNow == now.ownerOf(thing) ? ofOwner : ofOthers;
        return userOfNow == 0 || (now.rightsOf(thing) & needed) != 0;
    }

    // ---- names

    /** The folder that the names ahead of the last one lead to, or NONE. */
    private int folderAhead(int path) {
        int folder = walk.thingAt(now, path / NAME_STEP, true);
        return now.isOfKind(folder, FOLDER) ? folder : NONE;
    }

    private int makeThing(int kind, int path, int rights, int target) {
        if (!isNewPath(path) || !isRights(rights) || !isPath(target)) {
            throw new IllegalArgumentException("path, rights or target is out of range");
        }
        int folder = folderAhead(path);
        int name = path % NAME_STEP;
        if (folder == NONE || name == 0) {
            throw new IndexOutOfBoundsException("no such folder, or the last name is 0");
        }
        int thing = now.lowestNotHad();
        if (thing == NONE || !canTakeNewName(folder, name)) {
            throw new IllegalStateException("no new thing or name there");
        }
        now.makeThing(thing, kind, userOfNow, rights);
        now.setPath(thing, target);
        now.putEntry(folder, name, thing);
        return thing;
    }

    private boolean canTakeNewName(int folder, int name) {
        return now.thingNamed(folder, name) == NONE && now.sizeOf(folder) < ENTRIES && mayWrite(folder);
    }

    /** Whether the kinds of a thing and of what is there already, and the tree, let it come into a folder. */
    private boolean canComeTo(int thing, int folder, int there) {
        if (now.isOfKind(thing, FOLDER)) {
            boolean isPlaceFit = there == NONE || (now.isOfKind(there, FOLDER) && now.sizeOf(there) == 0);
            return isPlaceFit && !now.isAtOrBelow(folder, thing);
        }
        return !now.isOfKind(there, FOLDER);
    }

    private boolean hasRoomFor(int source, int goal, int there) {
        return source == goal || there != NONE || now.sizeOf(goal) < ENTRIES;
    }

    /** Counts a name less of a thing whose entry was taken away; answers whether it is gone by that. */
    private boolean loseName(int thing) {
        // A folder has no other name, whatever a damaged count tells.
        if (now.isOfKind(thing, FOLDER)) {
            return goneUnlessOpen(thing);
        }
        now.setCount(thing, now.countOf(thing) - 1);
        return now.countOf(thing) == 0 && goneUnlessOpen(thing);
    }

    private boolean goneUnlessOpen(int thing) {
        if (handles.countOf(thing) > 0) {
            return false;
        }
        now.clearThing(thing);
        cache.forgetThing(thing);
        return true;
    }

    // ---- blocks

    private boolean isInSnapshot(int block) {
        for (int i = 0; i < SNAPSHOTS; i++) {
            if (isGiven[i] && snapshots[i].hasBlock(block)) {
                return true;
            }
        }
        return false;
    }

    private boolean isUnused(int block) {
        return !now.hasBlock(block) && !committed.hasBlock(block) && !isInSnapshot(block);
    }

    private int countOfUnused() {
        int many = 0;
        for (int block = 0; block < BLOCKS; block++) {
            if (isUnused(block)) {
                many++;
            }
        }
        return many;
    }

    private boolean isWithinQuota(int thing, int more) {
        int owner = now.ownerOf(thing);
        return isUser(owner) && now.blocksOf(owner) + more <= quotas[owner];
    }

    /** The block that a page has when it is written next, or NONE if there is none for it. */
    private int blockToWrite(int thing, int page) {
        int block = now.blockOf(thing, page);
        if (block == NONE) {
            return isWithinQuota(thing, 1) ? blockFor(thing, page) : NONE;
        }
        return isInSnapshot(block) ? blockFor(thing, page) : block;
    }

    /** The free block where a page grows best, or NONE if none is free. */
    private int blockFor(int thing, int page) {
        int before = now.blockOf(thing, page - 1);
        if (before != NONE && before % GROUP_SIZE < GROUP_SIZE - 1 && isUnused(before + 1)) {
            return before + 1;
        }
        int block = NONE;
        for (int i = 0; i < GROUPS && block == NONE; i++) {
            block = lowestOfGroup((thing + i) % GROUPS);
        }
        return block;
    }

    private int lowestOfGroup(int group) {
        for (int i = 0; i < GROUP_SIZE; i++) {
            if (isUnused(group * GROUP_SIZE + i)) {
                return group * GROUP_SIZE + i;
            }
        }
        return NONE;
    }

    private int writtenNumber(Tree tree, int thing, int page) {
        return tree.pageKindOf(thing, page) == WRITTEN ? disk.numberOf(tree.blockOf(thing, page)) : 0;
    }

    // ---- flushing, committing, snapshots

    private int flushThing(int thing, int many) {
        int flushed = 0;
        for (int page = 0; page < PAGES && flushed < many; page++) {
            if (cache.isDirty(thing, page)) {
                int block = now.blockOf(thing, page);
                if (disk.isBad(block)) {
                    cache.setError(thing);
                } else {
                    disk.setNumber(block, cache.numberOf(thing, page));
                }
                cache.letGo(thing, page);
                flushed++;
            }
        }
        return flushed;
    }

    private int flushFirst(int many) {
        int flushed = 0;
        for (int thing = 0; thing < THINGS && flushed < many; thing++) {
            flushed += flushThing(thing, many - flushed);
        }
        return flushed;
    }

    private int commitAll() {
        int flushed = flushFirst(MOST_FLUSHED);
        committed.becomeLike(now);
        return flushed;
    }

    private int lowestNotGiven() {
        for (int i = 0; i < SNAPSHOTS; i++) {
            if (!isGiven[i]) {
                return i;
            }
        }
        return NONE;
    }

    // ---- damage

    private void shareFirstPage(int thing, int other) {
        boolean areFiles = now.isOfKind(thing, FILE) && now.isOfKind(other, FILE);
        if (!areFiles || thing == other || now.pageKindOf(other, 0) == HOLE) {
            throw new IllegalStateException("no two files with a block to share");
        }
        now.setPage(thing, 0, WRITTEN, now.blockOf(other, 0));
        cache.letGo(thing, 0);
    }

    private void loseFirstEntry(int folder) {
        if (now.sizeOf(folder) == 0) {
            throw new IllegalStateException("no folder, or no entry");
        }
        now.takeEntry(folder, now.entryName(folder, 0));
    }

    /** The things of one state: that of now, that which is committed, or a snapshot. */
    private static final class Tree {
        private final int[] kinds = new int[THINGS];
        private final int[] owners = new int[THINGS];
        private final int[] rights = new int[THINGS];
        private final int[] counts = new int[THINGS];
        private final int[] paths = new int[THINGS];
        private final int[] sizes = new int[THINGS];
        private final int[] entryNames = new int[THINGS * ENTRIES];
        private final int[] entryThings = new int[THINGS * ENTRIES];
        private final int[] pageKinds = new int[THINGS * PAGES];
        private final int[] pageBlocks = new int[THINGS * PAGES];
        // Kept beside the pages, so that to ask for free blocks and quotas needs no look at all pages.
        private final int[] filled = new int[THINGS];
        private final int[] uses = new int[BLOCKS];

        Tree() {
            for (int i = 0; i < THINGS; i++) {
                kinds[i] = NONE;
            }
            for (int i = 0; i < THINGS * PAGES; i++) {
                pageBlocks[i] = NONE;
            }
            kinds[ROOT] = FOLDER;
            rights[ROOT] = ALL_RIGHTS;
        }

        void becomeLike(Tree other) {
            System.arraycopy(other.kinds, 0, kinds, 0, THINGS);
            System.arraycopy(other.owners, 0, owners, 0, THINGS);
            System.arraycopy(other.rights, 0, rights, 0, THINGS);
            System.arraycopy(other.counts, 0, counts, 0, THINGS);
            System.arraycopy(other.paths, 0, paths, 0, THINGS);
            System.arraycopy(other.sizes, 0, sizes, 0, THINGS);
            System.arraycopy(other.entryNames, 0, entryNames, 0, THINGS * ENTRIES);
            System.arraycopy(other.entryThings, 0, entryThings, 0, THINGS * ENTRIES);
            System.arraycopy(other.pageKinds, 0, pageKinds, 0, THINGS * PAGES);
            System.arraycopy(other.pageBlocks, 0, pageBlocks, 0, THINGS * PAGES);
            System.arraycopy(other.filled, 0, filled, 0, THINGS);
            System.arraycopy(other.uses, 0, uses, 0, BLOCKS);
        }

        private static boolean isInRange(int thing) {
            return thing >= 0 && thing < THINGS;
        }

        boolean isThing(int thing) {
            return isInRange(thing) && kinds[thing] != NONE;
        }

        boolean isOfKind(int thing, int kind) {
            return isThing(thing) && kinds[thing] == kind;
        }

        int kindOf(int thing) {
            return isInRange(thing) ? kinds[thing] : NONE;
        }

        int ownerOf(int thing) {
            return isInRange(thing) ? owners[thing] : NONE;
        }

        void setOwner(int thing, int owner) {
            if (isInRange(thing)) {
                owners[thing] = owner;
            }
        }

        int rightsOf(int thing) {
            return isInRange(thing) ? rights[thing] : 0;
        }

        void setRights(int thing, int given) {
            if (isInRange(thing)) {
                rights[thing] = given;
            }
        }

        int countOf(int thing) {
            return isInRange(thing) ? counts[thing] : 0;
        }

        void setCount(int thing, int count) {
            if (isInRange(thing)) {
                counts[thing] = count;
            }
        }

        int pathOf(int thing) {
            return isInRange(thing) ? paths[thing] : 0;
        }

        void setPath(int thing, int path) {
            if (isInRange(thing)) {
                paths[thing] = path;
            }
        }

        int lowestNotHad() {
            for (int thing = 0; thing < THINGS; thing++) {
                if (kinds[thing] == NONE) {
                    return thing;
                }
            }
            return NONE;
        }

        /** Makes a thing that is about to get its first name. */
        void makeThing(int thing, int kind, int owner, int given) {
            if (isInRange(thing)) {
                kinds[thing] = kind;
                owners[thing] = owner;
                rights[thing] = given;
                counts[thing] = 1;
            }
        }

        void clearThing(int thing) {
            if (isInRange(thing)) {
                for (int page = 0; page < PAGES; page++) {
                    setPage(thing, page, HOLE, NONE);
                }
                kinds[thing] = NONE;
                counts[thing] = 0;
                sizes[thing] = 0;
            }
        }

        int sizeOf(int folder) {
            return isInRange(folder) ? sizes[folder] : 0;
        }

        private boolean isEntry(int folder, int place) {
            return folder >= 0 && folder < THINGS && place >= 0 && place < ENTRIES && place < sizes[folder];
        }

        int entryName(int folder, int place) {
            return isEntry(folder, place) ? entryNames[folder * ENTRIES + place] : 0;
        }

        int entryThing(int folder, int place) {
            return isEntry(folder, place) ? entryThings[folder * ENTRIES + place] : NONE;
        }

        private void setEntry(int folder, int place, int name, int thing) {
            if (isEntry(folder, place)) {
                entryNames[folder * ENTRIES + place] = name;
                entryThings[folder * ENTRIES + place] = thing;
            }
        }

        private int placeOf(int folder, int name) {
            for (int place = 0; place < ENTRIES && isEntry(folder, place); place++) {
                if (entryNames[folder * ENTRIES + place] == name) {
                    return place;
                }
            }
            return NONE;
        }

        /** The thing of a name in a folder; NONE if the name is not there, or that is no folder. */
        int thingNamed(int folder, int name) {
            return entryThing(folder, placeOf(folder, name));
        }

        void putEntry(int folder, int name, int thing) {
            int place = sizeOf(folder);
            if (!isInRange(folder) || place >= ENTRIES) {
                return;
            }
            sizes[folder] = place + 1;
            while (place > 0 && entryName(folder, place - 1) > name) {
                setEntry(folder, place, entryName(folder, place - 1), entryThing(folder, place - 1));
                place--;
            }
            setEntry(folder, place, name, thing);
        }

        void takeEntry(int folder, int name) {
            int place = placeOf(folder, name);
            if (place == NONE || !isInRange(folder)) {
                return;
            }
            for (int next = place + 1; next < sizes[folder]; next++) {
                setEntry(folder, next - 1, entryName(folder, next), entryThing(folder, next));
            }
            sizes[folder]--;
        }

        int countEntriesOf(int thing) {
            int many = 0;
            for (int folder = 0; folder < THINGS; folder++) {
                for (int place = 0; place < sizes[folder]; place++) {
                    if (entryThing(folder, place) == thing) {
                        many++;
                    }
                }
            }
            return many;
        }

        private int folderWith(int thing) {
            for (int folder = 0; folder < THINGS; folder++) {
                for (int place = 0; place < sizes[folder]; place++) {
                    if (entryThing(folder, place) == thing) {
                        return folder;
                    }
                }
            }
            return NONE;
        }

        boolean isAtOrBelow(int folder, int above) {
            int each = folder;
            for (int depth = 0; depth < THINGS && each != NONE; depth++) {
                if (each == above) {
                    return true;
                }
                each = folderWith(each);
            }
            return false;
        }

        private static boolean isPageOf(int thing, int page) {
            return isInRange(thing) && page >= 0 && page < PAGES;
        }

        int pageKindOf(int thing, int page) {
            return isPageOf(thing, page) ? pageKinds[thing * PAGES + page] : HOLE;
        }

        int blockOf(int thing, int page) {
            return isPageOf(thing, page) ? pageBlocks[thing * PAGES + page] : NONE;
        }

        void setPage(int thing, int page, int kind, int block) {
            if (isPageOf(thing, page)) {
                countBlock(thing, pageBlocks[thing * PAGES + page], -1);
                pageKinds[thing * PAGES + page] = kind;
                pageBlocks[thing * PAGES + page] = block;
                countBlock(thing, block, 1);
            }
        }

        private void countBlock(int thing, int block, int more) {
            if (block >= 0 && block < BLOCKS && isInRange(thing)) {
                uses[block] += more;
                filled[thing] += more;
            }
        }

        boolean hasBlock(int block) {
            return block >= 0 && block < BLOCKS && uses[block] > 0;
        }

        int filledOf(int thing) {
            return isInRange(thing) ? filled[thing] : 0;
        }

        int holesOf(int thing, int first, int last) {
            int holes = 0;
            for (int page = first; page <= last && page < PAGES; page++) {
                if (pageKindOf(thing, page) == HOLE) {
                    holes++;
                }
            }
            return holes;
        }

        int blocksOf(int user) {
            int many = 0;
            for (int thing = 0; thing < THINGS; thing++) {
                if (isOfKind(thing, FILE) && owners[thing] == user) {
                    many += filled[thing];
                }
            }
            return many;
        }
    }

    /** Goes along paths; what is left of one lies on a stack, so that the path of a link comes ahead of it. */
    private static final class Walk {
        private static final int NAMES_OF_PATH = 4;
        private static final int MOST_NAMES = NAMES_OF_PATH * (1 + MOST_LINKS);

        private final int[] names = new int[MOST_NAMES];
        private int left = 0;

        /** The thing that a path leads to in a state, or NONE. */
        int thingAt(Tree tree, int path, boolean isFollowed) {
            left = 0;
            putNames(path);
            int thing = ROOT;
            int links = 0;
            for (int step = 0; step < MOST_NAMES && left > 0; step++) {
                thing = tree.thingNamed(thing, nextName());
                if (thing == NONE) {
                    return NONE;
                }
                if (tree.isOfKind(thing, LINK) && (left > 0 || isFollowed)) {
                    if (links == MOST_LINKS) {
                        return NONE;
                    }
                    links++;
                    putNames(tree.pathOf(thing));
                    thing = ROOT;
                }
            }
            return thing;
        }

        private void putNames(int path) {
            int rest = path;
            for (int i = 0; i < NAMES_OF_PATH && rest > 0 && left < MOST_NAMES; i++) {
                names[left] = rest % NAME_STEP;
                left++;
                rest /= NAME_STEP;
            }
        }

        private int nextName() {
            if (left < 1 || left > MOST_NAMES) {
                return 0;
            }
            left--;
            return names[left];
        }
    }

    /** The blocks themselves, which all states share. */
    private static final class Disk {
        private final int[] numbers = new int[BLOCKS];
        private final boolean[] bads = new boolean[BLOCKS];

        private static boolean isBlock(int block) {
            return block >= 0 && block < BLOCKS;
        }

        int numberOf(int block) {
            return isBlock(block) ? numbers[block] : 0;
        }

        void setNumber(int block, int number) {
            if (isBlock(block)) {
                numbers[block] = number;
            }
        }

        boolean isBad(int block) {
            return isBlock(block) && bads[block];
        }

        void setBad(int block, boolean isBadThen) {
            if (isBlock(block)) {
                bads[block] = isBadThen;
            }
        }
    }

    /** The numbers of dirty pages, and the errors that came when such ones were flushed. */
    private static final class Cache {
        // NONE for a page that is not dirty.
        private final int[] numbers = new int[THINGS * PAGES];
        private final boolean[] errors = new boolean[THINGS];
        private int many = 0;

        Cache() {
            for (int i = 0; i < THINGS * PAGES; i++) {
                numbers[i] = NONE;
            }
        }

        private static boolean isPageOf(int thing, int page) {
            return thing >= 0 && thing < THINGS && page >= 0 && page < PAGES;
        }

        int count() {
            return many;
        }

        int numberOf(int thing, int page) {
            return isPageOf(thing, page) ? numbers[thing * PAGES + page] : NONE;
        }

        boolean isDirty(int thing, int page) {
            return numberOf(thing, page) != NONE;
        }

        void put(int thing, int page, int number) {
            if (isPageOf(thing, page)) {
                letGo(thing, page);
                numbers[thing * PAGES + page] = number;
                many++;
            }
        }

        void letGo(int thing, int page) {
            if (isPageOf(thing, page) && numbers[thing * PAGES + page] != NONE) {
                numbers[thing * PAGES + page] = NONE;
                many--;
            }
        }

        boolean hasError(int thing) {
            return thing >= 0 && thing < THINGS && errors[thing];
        }

        void setError(int thing) {
            if (thing >= 0 && thing < THINGS) {
                errors[thing] = true;
            }
        }

        /** Whether a thing had an error; it has none any more. */
        boolean tellError(int thing) {
            boolean had = hasError(thing);
            if (had) {
                errors[thing] = false;
            }
            return had;
        }

        void forgetThing(int thing) {
            for (int page = 0; page < PAGES; page++) {
                letGo(thing, page);
            }
            tellError(thing);
        }

        void forgetAll() {
            for (int thing = 0; thing < THINGS; thing++) {
                forgetThing(thing);
            }
        }
    }

    /** All handles that ever were, and the pages that they have locked. */
    private static final class Handles {
        private final int[] things = new int[HANDLES];
        private final boolean[] opens = new boolean[HANDLES];
        private final boolean[] writers = new boolean[HANDLES];
        private final int[] locks = new int[HANDLES * PAGES];
        private int given = 0;

        boolean isHandle(int handle) {
            return handle >= 0 && handle < HANDLES && handle < given;
        }

        boolean isSpent() {
            return given >= HANDLES;
        }

        int give(int thing, boolean isWriting) {
            if (given < 0 || given >= HANDLES) {
                return NONE;
            }
            things[given] = thing;
            opens[given] = true;
            writers[given] = isWriting;
            given++;
            return given - 1;
        }

        int thingOf(int handle) {
            return isHandle(handle) ? things[handle] : NONE;
        }

        boolean isOpen(int handle) {
            return isHandle(handle) && opens[handle];
        }

        boolean isToWrite(int handle) {
            return isHandle(handle) && writers[handle];
        }

        void shut(int handle) {
            if (isHandle(handle)) {
                opens[handle] = false;
                setLocks(handle, 0, PAGES - 1, UNLOCKED);
            }
        }

        void shutAll() {
            for (int handle = 0; handle < HANDLES; handle++) {
                shut(handle);
            }
        }

        boolean isAnyOpen() {
            for (int handle = 0; handle < HANDLES; handle++) {
                if (opens[handle]) {
                    return true;
                }
            }
            return false;
        }

        private boolean isOpenOf(int handle, int thing) {
            return isOpen(handle) && thingOf(handle) == thing;
        }

        int countOf(int thing) {
            int many = 0;
            for (int handle = 0; handle < HANDLES; handle++) {
                if (isOpenOf(handle, thing)) {
                    many++;
                }
            }
            return many;
        }

        int lockAt(int handle, int page) {
            return isHandle(handle) && page >= 0 && page < PAGES ? locks[handle * PAGES + page] : UNLOCKED;
        }

        void setLocks(int handle, int first, int last, int how) {
            if (isHandle(handle) && first >= 0) {
                for (int page = first; page <= last && page < PAGES; page++) {
                    locks[handle * PAGES + page] = how;
                }
            }
        }

        int countLocked(int handle, int first, int last, int how) {
            int many = 0;
            for (int page = first; page <= last && page < PAGES; page++) {
                if (lockAt(handle, page) == how) {
                    many++;
                }
            }
            return many;
        }

        /** Whether another handle of the same file has locked one of the pages so that it cannot be locked so. */
        boolean isHindered(int handle, int first, int last, int how) {
            int thing = thingOf(handle);
            for (int other = 0; other < HANDLES; other++) {
                if (other != handle && isOpenOf(other, thing)) {
                    int toRead = countLocked(other, first, last, LOCKED_TO_READ);
                    int toWrite = countLocked(other, first, last, LOCKED_TO_WRITE);
                    if (toWrite > 0 || (how == LOCKED_TO_WRITE && toRead > 0)) {
                        return true;
                    }
                }
            }
            return false;
        }
    }

    /** Mends the state of now, in the order that the document tells; each step answers how much it mended. */
    private static final class Checker {
        private final boolean[] isSeen = new boolean[BLOCKS];
        private final boolean[] isReached = new boolean[THINGS];
        private final int[] reached = new int[THINGS];
        private int many = 0;

        int mendPages(Tree tree, Cache cache) {
            for (int block = 0; block < BLOCKS; block++) {
                isSeen[block] = false;
            }
            int holes = 0;
            for (int thing = 0; thing < THINGS; thing++) {
                for (int page = 0; page < PAGES; page++) {
                    if (isSeenAgain(tree.blockOf(thing, page))) {
                        tree.setPage(thing, page, HOLE, NONE);
                        cache.letGo(thing, page);
                        holes++;
                    }
                }
            }
            return holes;
        }

        private boolean isSeenAgain(int block) {
            if (block < 0 || block >= BLOCKS) {
                return false;
            }
            boolean wasSeen = isSeen[block];
            isSeen[block] = true;
            return wasSeen;
        }

        int mendThings(Tree tree, Cache cache) {
            reachAll(tree);
            int gone = 0;
            for (int thing = 0; thing < THINGS; thing++) {
                if (tree.isThing(thing) && !isReached[thing]) {
                    tree.clearThing(thing);
                    cache.forgetThing(thing);
                    gone++;
                }
            }
            return gone;
        }

        private void reachAll(Tree tree) {
            for (int thing = 0; thing < THINGS; thing++) {
                isReached[thing] = false;
            }
            many = 0;
            reach(ROOT);
            for (int next = 0; next < many && next < THINGS; next++) {
                int size = tree.sizeOf(reached[next]);
                for (int place = 0; place < size; place++) {
                    reach(tree.entryThing(reached[next], place));
                }
            }
        }

        private void reach(int thing) {
            if (thing >= 0 && thing < THINGS && !isReached[thing] && many >= 0 && many < THINGS) {
                isReached[thing] = true;
                reached[many] = thing;
                many++;
            }
        }

        int mendCounts(Tree tree) {
            int wrong = 0;
            for (int thing = 0; thing < THINGS; thing++) {
                int right = tree.countEntriesOf(thing);
                if (tree.isThing(thing) && tree.countOf(thing) != right) {
                    tree.setCount(thing, right);
                    wrong++;
                }
            }
            return wrong;
        }
    }
}

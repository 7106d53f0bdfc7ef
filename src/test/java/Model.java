import java.util.ArrayList;
import java.util.HashSet;
import java.util.List;
import java.util.Map;
import java.util.Set;
import java.util.TreeMap;
import java.util.TreeSet;

/**
 * The document once more, written as plainly as its words, with maps and sets of the library and nothing kept
 * beside them, for runs in which the class and this one must answer alike.
 */
final class Model {
    static final class Page {
        final int kind;
        final int block;

        Page(int kind, int block) {
            this.kind = kind;
            this.block = block;
        }
    }

    static final class Thing {
        int kind;
        int owner;
        int rights;
        int count;
        int target = -1;
        TreeMap<Integer, Integer> entries = new TreeMap<>();
        TreeMap<Integer, Page> pages = new TreeMap<>();

        Thing copied() {
            Thing like = new Thing();
            like.kind = kind;
            like.owner = owner;
            like.rights = rights;
            like.count = count;
            like.target = target;
            like.entries = new TreeMap<>(entries);
            like.pages = new TreeMap<>(pages);
            return like;
        }
    }

    static final class Handle {
        int thing;
        boolean writes;
        boolean open = true;
        TreeMap<Integer, Integer> locks = new TreeMap<>();
    }

    private int user = 0;
    private TreeMap<Integer, Thing> now = new TreeMap<>();
    private TreeMap<Integer, Thing> committed;
    private final TreeMap<Integer, TreeMap<Integer, Thing>> snapshots = new TreeMap<>();
    private final TreeMap<Integer, Integer> cache = new TreeMap<>();
    private final Set<Integer> errors = new HashSet<>();
    private final List<Handle> handles = new ArrayList<>();
    private final int[] quotas = {64, 64, 64, 64};
    private final int[] numbers = new int[64];
    private final Set<Integer> bads = new HashSet<>();

    Model() {
        Thing root = new Thing();
        root.kind = 1;
        root.rights = 15;
        now.put(0, root);
        committed = copied(now);
    }

    private static TreeMap<Integer, Thing> copied(TreeMap<Integer, Thing> state) {
        TreeMap<Integer, Thing> like = new TreeMap<>();
        state.forEach((number, thing) -> like.put(number, thing.copied()));
        return like;
    }

    /** Answers a call by the name of its method; a boolean is 1 or 0, nothing is 0. */
    long answer(String call, int a, int b, int c, int d) {
        switch (call) {
            case "user": index(a >= 0 && a <= 3); int was = user; user = a; return was;
            case "file": argument(isRights(b)); return made(0, a, b, -1);
            case "folder": argument(isRights(b)); return made(1, a, b, -1);
            case "link": argument(b >= 0 && b <= 99999999); return made(2, a, 15, b);
            case "hard": return hard(a, b);
            case "rename": return rename(a, b);
            case "remove": return remove(a);
            case "rights": return rights(a, b);
            case "own": return own(a, b);
            case "look": argument(isPath(a, 0)); return found(now, a, b == 1);
            case "open": return open(a, b == 1);
            case "close": return close(a);
            case "write": return write(a, b, c);
            case "read": return read(a, b);
            case "ahead": return ahead(a, b, c);
            case "cut": return cut(a, b);
            case "lock": return lock(a, b, c, d == 1 ? 2 : 1);
            case "unlock": return unlock(a, b, c);
            case "lockOf": handleAndPage(a, b); return handles.get(a).locks.getOrDefault(b, 0);
            default: return answerOfDisk(call, a, b, c);
        }
    }

    private long answerOfDisk(String call, int a, int b, int c) {
        switch (call) {
            case "flush": argument(a >= 1 && a <= 512); return flushed(0, 31, a);
            case "sync": return sync(a);
            case "commit": return commit();
            case "crash": return crash();
            case "snapshot": return snapshot();
            case "drop": return drop(a);
            case "readOld": return readOld(a, b, c);
            case "quota": return quota(a, b);
            case "bad": index(a >= 0 && a <= 63); boolean was = bads.contains(a);
                if (b == 1) bads.add(a); else bads.remove(a);
                return was ? 1 : 0;
            case "damage": return damage(a, b, c);
            case "check": return check();
            default: return answerOfQuestion(call, a, b, c);
        }
    }

    private long answerOfQuestion(String call, int a, int b, int c) {
        switch (call) {
            case "about": return about(a, b);
            case "entry": return entry(a, b);
            case "target": index(now.containsKey(a)); return now.get(a).target;
            case "page": return page(a, b, c);
            case "number": index(a >= 0 && a <= 63); return numbers[a];
            case "isFree": index(a >= 0 && a <= 63); return free().contains(a) ? 1 : 0;
            case "used": index(a >= 0 && a <= 3); return used(a);
            case "dirty": return cache.size();
            default: throw new UnsupportedOperationException(call);
        }
    }

    private static void argument(boolean fits) {
        if (!fits) throw new IllegalArgumentException();
    }

    private static void index(boolean fits) {
        if (!fits) throw new IndexOutOfBoundsException();
    }

    private static void state(boolean fits) {
        if (!fits) throw new IllegalStateException();
    }

    private static boolean isRights(int rights) {
        return rights >= 0 && rights <= 15;
    }

    private static boolean isPath(int path, int lowest) {
        return path >= lowest && path <= 99999999;
    }

    private static List<Integer> namesOf(int path) {
        List<Integer> names = new ArrayList<>();
        String digits = path == 0 ? "" : String.valueOf(path);
        if (digits.length() % 2 == 1) digits = "0" + digits;
        for (int i = 0; i < digits.length(); i += 2) {
            names.add(Integer.parseInt(digits.substring(i, i + 2)));
        }
        return names;
    }

    /** The thing that names lead to, or -1. */
    private static int walked(TreeMap<Integer, Thing> state, List<Integer> names, boolean followed) {
        List<Integer> rest = new ArrayList<>(names);
        int links = 0;
        int at = 0;
        while (!rest.isEmpty()) {
            int name = rest.remove(0);
            Thing folder = state.get(at);
            if (folder.kind != 1 || name == 0 || !folder.entries.containsKey(name)) return -1;
            at = folder.entries.get(name);
            Thing thing = state.get(at);
            if (thing.kind == 2 && (!rest.isEmpty() || followed)) {
                links++;
                if (links > 4) return -1;
                rest.addAll(0, namesOf(thing.target));
                at = 0;
            }
        }
        return at;
    }

    private static int found(TreeMap<Integer, Thing> state, int path, boolean followed) {
        int thing = walked(state, namesOf(path), followed);
        index(thing != -1);
        return thing;
    }

    /** The folder of a new name. */
    private Thing folderOf(int path) {
        List<Integer> names = namesOf(path);
        index(names.get(names.size() - 1) != 0);
        int folder = walked(now, names.subList(0, names.size() - 1), true);
        index(folder != -1 && now.get(folder).kind == 1);
        return now.get(folder);
    }

    private int lastOf(int path) {
        List<Integer> names = namesOf(path);
        return names.get(names.size() - 1);
    }

    private boolean may(Thing thing, int ofOwner, int ofOthers) {
        if (user == 0) return true;
        return (thing.rights & (thing.owner == user ? ofOwner : ofOthers)) != 0;
    }

    private boolean mayWrite(Thing thing) {
        return may(thing, 4, 1);
    }

    private int made(int kind, int path, int rights, int target) {
        argument(isPath(path, 1));
        Thing folder = folderOf(path);
        state(!folder.entries.containsKey(lastOf(path)) && folder.entries.size() < 8 && now.size() < 32);
        state(mayWrite(folder));
        int number = 0;
        while (now.containsKey(number)) number++;
        Thing thing = new Thing();
        thing.kind = kind;
        thing.owner = user;
        thing.rights = rights;
        thing.count = 1;
        thing.target = target;
        now.put(number, thing);
        folder.entries.put(lastOf(path), number);
        return number;
    }

    private int hard(int path, int to) {
        argument(isPath(path, 1) && isPath(to, 1));
        int number = found(now, path, false);
        Thing folder = folderOf(to);
        Thing thing = now.get(number);
        state(thing.kind != 1 && !folder.entries.containsKey(lastOf(to)) && folder.entries.size() < 8);
        state(mayWrite(folder));
        folder.entries.put(lastOf(to), number);
        thing.count++;
        return thing.count;
    }

    private boolean isBelow(Thing thing, Thing above) {
        if (thing == above) return true;
        for (int number : above.entries.values()) {
            if (isBelow(thing, now.get(number))) return true;
        }
        return false;
    }

    private int rename(int from, int to) {
        argument(isPath(from, 1) && isPath(to, 1));
        int number = found(now, from, false);
        Thing source = folderOf(from);
        Thing goal = folderOf(to);
        Thing thing = now.get(number);
        Integer there = goal.entries.get(lastOf(to));
        if (there != null && there == number) return number;
        state(thing.kind != 1 || !isBelow(goal, thing));
        if (there != null) {
            Thing other = now.get(there);
            state((thing.kind == 1) == (other.kind == 1));
            state(other.entries.isEmpty());
        } else {
            state(goal.entries.size() + (source == goal ? 0 : 1) <= 8);
        }
        state(mayWrite(source) && mayWrite(goal));
        source.entries.remove(lastOf(from));
        goal.entries.put(lastOf(to), number);
        if (there != null) nameLost(there);
        return number;
    }

    private boolean nameLost(int number) {
        Thing thing = now.get(number);
        thing.count--;
        if (thing.kind == 1 || (thing.count == 0 && openOf(number) == 0)) {
            gone(number);
            return true;
        }
        return false;
    }

    private void gone(int number) {
        now.remove(number);
        cache.keySet().removeIf(key -> key / 16 == number);
        errors.remove(number);
    }

    private int openOf(int number) {
        int many = 0;
        for (Handle handle : handles) {
            if (handle.open && handle.thing == number) many++;
        }
        return many;
    }

    private int remove(int path) {
        argument(isPath(path, 1));
        int number = found(now, path, false);
        Thing folder = folderOf(path);
        state(now.get(number).entries.isEmpty() && mayWrite(folder));
        folder.entries.remove(lastOf(path));
        return nameLost(number) ? 1 : 0;
    }

    private int rights(int path, int rights) {
        argument(isPath(path, 0) && isRights(rights));
        Thing thing = now.get(found(now, path, true));
        state(user == 0 || user == thing.owner);
        int was = thing.rights;
        thing.rights = rights;
        return was;
    }

    private int own(int path, int owner) {
        argument(isPath(path, 0));
        Thing thing = now.get(found(now, path, true));
        index(owner >= 0 && owner <= 3);
        state(user == 0);
        int was = thing.owner;
        thing.owner = owner;
        return was;
    }

    private int open(int path, boolean writes) {
        argument(isPath(path, 0));
        int number = found(now, path, true);
        Thing thing = now.get(number);
        state(thing.kind == 0 && may(thing, 8, 2) && (!writes || mayWrite(thing)) && handles.size() < 30);
        Handle handle = new Handle();
        handle.thing = number;
        handle.writes = writes;
        handles.add(handle);
        return handles.size() - 1;
    }

    private void handle(int handle) {
        index(handle >= 0 && handle < handles.size());
    }

    private void handleAndPage(int handle, int page) {
        handle(handle);
        index(page >= 0 && page <= 15);
    }

    private void handleAndPages(int handle, int first, int last) {
        handleAndPage(handle, first);
        handleAndPage(handle, last);
        argument(first <= last);
    }

    private int told(int number) {
        return errors.remove(number) ? 1 : 0;
    }

    private int close(int a) {
        handle(a);
        Handle handle = handles.get(a);
        state(handle.open);
        int error = told(handle.thing);
        handle.open = false;
        handle.locks.clear();
        if (now.get(handle.thing).count == 0 && openOf(handle.thing) == 0) gone(handle.thing);
        return error;
    }

    private static boolean has(TreeMap<Integer, Thing> state, int block) {
        for (Thing thing : state.values()) {
            for (Page page : thing.pages.values()) {
                if (page.block == block) return true;
            }
        }
        return false;
    }

    private boolean isOld(int block) {
        for (TreeMap<Integer, Thing> old : snapshots.values()) {
            if (has(old, block)) return true;
        }
        return false;
    }

    private TreeSet<Integer> free() {
        TreeSet<Integer> free = new TreeSet<>();
        for (int block = 0; block < 64; block++) {
            if (!has(now, block) && !has(committed, block) && !isOld(block)) free.add(block);
        }
        return free;
    }

    private int used(int of) {
        int many = 0;
        for (Thing thing : now.values()) {
            if (thing.owner == of) many += thing.pages.size();
        }
        return many;
    }

    private int newBlock(int number, int page) {
        Thing thing = now.get(number);
        state(thing.pages.containsKey(page) || used(thing.owner) < quotas[thing.owner]);
        TreeSet<Integer> free = free();
        Page before = thing.pages.get(page - 1);
        if (before != null) {
            int behind = before.block + 1;
            if (behind / 16 == before.block / 16 && free.contains(behind)) return behind;
        }
        for (int i = 0; i < 4; i++) {
            int group = (number % 4 + i) % 4;
            Integer lowest = free.ceiling(group * 16);
            if (lowest != null && lowest < group * 16 + 16) return lowest;
        }
        throw new IllegalStateException();
    }

    private Handle toWrite(int a) {
        Handle handle = handles.get(a);
        state(handle.open && handle.writes);
        return handle;
    }

    private int write(int a, int page, int number) {
        handleAndPage(a, page);
        argument(number >= 0 && number <= 255);
        Handle handle = toWrite(a);
        Thing thing = now.get(handle.thing);
        Page was = thing.pages.get(page);
        int block = was == null || isOld(was.block) ? newBlock(handle.thing, page) : was.block;
        thing.pages.put(page, new Page(2, block));
        cache.put(handle.thing * 16 + page, number);
        return block;
    }

    private int read(int a, int page) {
        handleAndPage(a, page);
        Handle handle = handles.get(a);
        state(handle.open);
        Integer cached = cache.get(handle.thing * 16 + page);
        return cached != null ? cached : numberOf(now.get(handle.thing).pages.get(page));
    }

    private int numberOf(Page page) {
        return page == null || page.kind != 2 ? 0 : numbers[page.block];
    }

    private int ahead(int a, int first, int last) {
        handleAndPages(a, first, last);
        Handle handle = toWrite(a);
        Thing thing = now.get(handle.thing);
        TreeMap<Integer, Page> before = new TreeMap<>(thing.pages);
        try {
            for (int page = first; page <= last; page++) {
                if (!thing.pages.containsKey(page)) {
                    thing.pages.put(page, new Page(1, newBlock(handle.thing, page)));
                }
            }
        } catch (IllegalStateException e) {
            thing.pages = before;
            throw e;
        }
        return thing.pages.size() - before.size();
    }

    private int cut(int a, int first) {
        handleAndPage(a, first);
        Handle handle = toWrite(a);
        Thing thing = now.get(handle.thing);
        int before = thing.pages.size();
        thing.pages.keySet().removeIf(page -> page >= first);
        cache.keySet().removeIf(key -> key / 16 == handle.thing && key % 16 >= first);
        return before - thing.pages.size();
    }

    private int lock(int a, int first, int last, int how) {
        handleAndPages(a, first, last);
        Handle handle = handles.get(a);
        state(handle.open);
        int many = 0;
        for (int page = first; page <= last; page++) {
            for (Handle other : handles) {
                int theirs = other == handle || other.thing != handle.thing ? 0 : other.locks.getOrDefault(page, 0);
                state(theirs != 2 && (theirs != 1 || how != 2));
            }
            if (handle.locks.getOrDefault(page, 0) != how) many++;
        }
        for (int page = first; page <= last; page++) handle.locks.put(page, how);
        return many;
    }

    private int unlock(int a, int first, int last) {
        handleAndPages(a, first, last);
        Handle handle = handles.get(a);
        state(handle.open);
        int before = handle.locks.size();
        handle.locks.keySet().removeIf(page -> page >= first && page <= last);
        return before - handle.locks.size();
    }

    private int flushed(int first, int last, int many) {
        int done = 0;
        for (int key : new ArrayList<>(cache.keySet())) {
            int number = key / 16;
            if (number < first || number > last || done == many) continue;
            int block = now.get(number).pages.get(key % 16).block;
            if (bads.contains(block)) errors.add(number); else numbers[block] = cache.get(key);
            cache.remove(key);
            done++;
        }
        return done;
    }

    private int commit() {
        int many = flushed(0, 31, 512);
        committed = copied(now);
        return many;
    }

    private int sync(int a) {
        handle(a);
        Handle handle = handles.get(a);
        state(handle.open);
        flushed(handle.thing, handle.thing, 16);
        commit();
        return told(handle.thing);
    }

    private int crash() {
        int lost = cache.size();
        now = copied(committed);
        now.values().removeIf(thing -> thing.kind == 0 && thing.count == 0);
        cache.clear();
        errors.clear();
        for (Handle handle : handles) {
            handle.open = false;
            handle.locks.clear();
        }
        return lost;
    }

    private int snapshot() {
        state(snapshots.size() < 3);
        commit();
        int number = 0;
        while (snapshots.containsKey(number)) number++;
        snapshots.put(number, copied(now));
        return number;
    }

    private int drop(int number) {
        index(snapshots.containsKey(number));
        int before = free().size();
        snapshots.remove(number);
        return free().size() - before;
    }

    private int readOld(int number, int path, int page) {
        argument(isPath(path, 0));
        index(snapshots.containsKey(number) && page >= 0 && page <= 15);
        Thing thing = snapshots.get(number).get(found(snapshots.get(number), path, true));
        state(thing.kind == 0);
        return numberOf(thing.pages.get(page));
    }

    private int quota(int of, int blocks) {
        index(of >= 0 && of <= 3);
        argument(blocks >= 0 && blocks <= 64);
        int was = quotas[of];
        quotas[of] = blocks;
        return was;
    }

    private int damage(int what, int number, int other) {
        argument(what >= 0 && what <= 2);
        index(now.containsKey(number) && (what != 1 || now.containsKey(other)));
        Thing thing = now.get(number);
        if (what == 0) {
            thing.count++;
        } else if (what == 1) {
            Thing from = now.get(other);
            state(thing.kind == 0 && from.kind == 0 && number != other && from.pages.containsKey(0));
            thing.pages.put(0, new Page(2, from.pages.get(0).block));
            cache.remove(number * 16);
        } else {
            state(thing.kind == 1 && !thing.entries.isEmpty());
            thing.entries.pollFirstEntry();
        }
        return 0;
    }

    private void reach(int number, Set<Integer> reached) {
        reached.add(number);
        for (int below : now.get(number).entries.values()) reach(below, reached);
    }

    private int check() {
        for (Handle handle : handles) state(!handle.open);
        int pages = 0;
        Set<Integer> seen = new HashSet<>();
        for (int number : now.keySet()) {
            Thing thing = now.get(number);
            for (int page : new ArrayList<>(thing.pages.keySet())) {
                if (!seen.add(thing.pages.get(page).block)) {
                    thing.pages.remove(page);
                    cache.remove(number * 16 + page);
                    pages++;
                }
            }
        }
        Set<Integer> reached = new HashSet<>();
        reach(0, reached);
        int things = 0;
        for (int number : new ArrayList<>(now.keySet())) {
            if (!reached.contains(number)) {
                gone(number);
                things++;
            }
        }
        return 10000 * pages + 100 * things + countsMended();
    }

    private int countsMended() {
        Map<Integer, Integer> right = new TreeMap<>();
        for (Thing thing : now.values()) {
            thing.entries.values().forEach(number -> right.merge(number, 1, Integer::sum));
        }
        int wrong = 0;
        for (int number : now.keySet()) {
            if (now.get(number).count != right.getOrDefault(number, 0)) wrong++;
            now.get(number).count = right.getOrDefault(number, 0);
        }
        return wrong;
    }

    private int about(int number, int what) {
        index(now.containsKey(number));
        argument(what >= 0 && what <= 6);
        Thing thing = now.get(number);
        int[] told = {thing.kind, thing.owner, thing.rights, thing.count, thing.entries.size() + thing.pages.size(),
            openOf(number), errors.contains(number) ? 1 : 0};
        return told[what];
    }

    private int entry(int number, int place) {
        index(now.containsKey(number));
        List<Integer> names = new ArrayList<>(now.get(number).entries.keySet());
        index(place >= 0 && place < names.size());
        return 100 * now.get(number).entries.get(names.get(place)) + names.get(place);
    }

    private int page(int number, int page, int what) {
        index(now.containsKey(number) && page >= 0 && page <= 15);
        argument(what >= 0 && what <= 2);
        Page had = now.get(number).pages.get(page);
        int[] told = {had == null ? 0 : had.kind, had == null ? -1 : had.block,
            cache.containsKey(number * 16 + page) ? 1 : 0};
        return told[what];
    }
}

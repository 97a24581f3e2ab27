import java.util.ArrayList;
import java.util.Collections;
import java.util.HashMap;
import java.util.HashSet;
import java.util.List;
import java.util.Map;
import java.util.Set;
import java.util.TreeSet;

/**
 * The document written down a second time, with the library's sets and without any thought of
 * speed, so that long runs can be compared with the class. It has no code in common with it.
 */
final class PlainModel {
    private static final int NONE = -1;

    private static final class Folder {
        Folder in;
        int owner;
        boolean hidden;
    }

    private static final class Stored {
        final List<Integer> places = new ArrayList<>();
        int owner;
        int worth;
        int day;

        Set<Integer> blocks() {
            Set<Integer> set = new HashSet<>(places);
            set.remove(NONE);
            return set;
        }
    }

    private static final class Name {
        Stored file;
        Folder in;
    }

    private static final class Mark {
        int day;
        final Map<Folder, Integer> taken = new HashMap<>();
    }

    private final List<Folder> folders = new ArrayList<>();
    private final List<Stored> files = new ArrayList<>();
    private final List<Name> names = new ArrayList<>();
    private final Map<Integer, Set<Integer>> snapshots = new HashMap<>();
    private final List<Mark> marks = new ArrayList<>();
    private int now = 0;
    private int holds = 60;

    PlainModel() {
        folders.add(new Folder());
    }

    private static <T> T at(List<T> list, int i) {
        return i >= 0 && i < list.size() ? list.get(i) : null;
    }

    private boolean there(Stored file) {
        return file != null && namesOf(file) > 0;
    }

    private int namesOf(Stored file) {
        int found = 0;
        for (Name name : names) {
            found += name.file == file ? 1 : 0;
        }
        return found;
    }

    private Stored fileAt(int file) {
        Stored found = at(files, file);
        return there(found) ? found : null;
    }

    private static boolean isBelow(Folder folder, Folder top) {
        for (Folder f = folder; f != null; f = f.in) {
            if (f == top) {
                return true;
            }
        }
        return false;
    }

    private Set<Stored> filesOf(Folder top) {
        Set<Stored> found = new HashSet<>();
        for (Name name : names) {
            if (name.file != null && isBelow(name.in, top)) {
                found.add(name.file);
            }
        }
        return found;
    }

    private Set<Stored> filesThere() {
        return filesOf(folders.get(0));
    }

    private static Set<Integer> blocksOf(Set<Stored> set) {
        Set<Integer> found = new TreeSet<>();
        for (Stored file : set) {
            found.addAll(file.blocks());
        }
        return found;
    }

    private Set<Integer> had() {
        Set<Integer> found = blocksOf(filesThere());
        for (Set<Integer> held : snapshots.values()) {
            found.addAll(held);
        }
        return found;
    }

    private int freedBy(Set<Stored> going) {
        Set<Stored> kept = filesThere();
        kept.removeAll(going);
        Set<Integer> found = blocksOf(going);
        found.removeAll(blocksOf(kept));
        for (Set<Integer> held : snapshots.values()) {
            found.removeAll(held);
        }
        return found.size();
    }

    private static boolean person(int who) {
        return who >= 0 && who <= 5;
    }

    private static boolean sees(int who, Folder folder) {
        if (folder == null) {
            return true;
        }
        return (!folder.hidden || folder.owner == who) && sees(who, folder.in);
    }

    int go(int n) {
        if (n < 0 || n > 500) {
            return NONE;
        }
        for (int i = 0; i < n && now < 5000; i++) {
            now++;
        }
        return now;
    }

    int folder(int in, int owner, boolean hidden) {
        if (at(folders, in) == null || !person(owner) || folders.size() == 30) {
            return NONE;
        }
        Folder folder = new Folder();
        folder.in = folders.get(in);
        folder.owner = owner;
        folder.hidden = hidden;
        folders.add(folder);
        return folders.size() - 1;
    }

    boolean move(int folder, int to) {
        Folder moved = at(folders, folder);
        Folder target = at(folders, to);
        if (moved == null || target == null || folder == 0 || isBelow(target, moved)) {
            return false;
        }
        moved.in = target;
        return true;
    }

    private int name(Stored file, int in) {
        Name name = new Name();
        name.file = file;
        name.in = folders.get(in);
        names.add(name);
        return names.size() - 1;
    }

    int file(int in, int owner, int worth) {
        if (at(folders, in) == null || !person(owner) || worth < 0 || worth > 999) {
            return NONE;
        }
        if (files.size() == 40 || names.size() == 100) {
            return NONE;
        }
        Stored file = new Stored();
        file.owner = owner;
        file.worth = worth;
        file.day = now;
        files.add(file);
        return name(file, in);
    }

    int copy(int name, int in) {
        Name original = at(names, name);
        if (original == null || original.file == null) {
            return NONE;
        }
        int copied = file(in, original.file.owner, original.file.worth);
        if (copied != NONE) {
            names.get(copied).file.places.addAll(original.file.places);
        }
        return copied;
    }

    int link(int file, int in) {
        if (fileAt(file) == null || at(folders, in) == null || names.size() == 100) {
            return NONE;
        }
        return name(fileAt(file), in);
    }

    boolean unlink(int name) {
        Name gone = at(names, name);
        if (gone == null || gone.file == null) {
            return false;
        }
        gone.file = null;
        return true;
    }

    int of(int name) {
        Name found = at(names, name);
        return found == null || found.file == null ? NONE : files.indexOf(found.file);
    }

    private boolean put(Stored file, int place, int content) {
        if (file == null || place < 0 || place > 59 || place > file.places.size()) {
            return false;
        }
        if (place == file.places.size()) {
            file.places.add(content);
        } else {
            file.places.set(place, content);
        }
        file.day = now;
        return true;
    }

    int write(int file, int place) {
        Set<Integer> had = had();
        if (had.size() >= holds) {
            return NONE;
        }
        int block = 0;
        while (had.contains(block)) {
            block++;
        }
        return block < 60 && put(fileAt(file), place, block) ? block : NONE;
    }

    boolean hole(int file, int place) {
        return put(fileAt(file), place, NONE);
    }

    boolean share(int file, int place, int other, int at) {
        int block = block(other, at);
        return block != NONE && put(fileAt(file), place, block);
    }

    boolean cut(int file, int length) {
        Stored found = fileAt(file);
        if (found == null || length < 0 || length > found.places.size()) {
            return false;
        }
        found.places.subList(length, found.places.size()).clear();
        found.day = now;
        return true;
    }

    int block(int file, int place) {
        Stored found = fileAt(file);
        Integer block = found == null ? null : at(found.places, place);
        return block == null ? NONE : block;
    }

    int sum(int folder, int who, int what) {
        Folder top = at(folders, folder);
        if (top == null || !person(who) || !(sees(who, top) || sees(who, top.in))) {
            return NONE;
        }
        Set<Stored> set = filesOf(top);
        int length = 0;
        for (Stored file : set) {
            length += file.places.size();
        }
        return what == 0 ? blocksOf(set).size() : what == 1 ? length : what == 2 ? set.size() : NONE;
    }

    int named(int folder, int who, int i) {
        Folder top = at(folders, folder);
        if (top == null || !person(who) || !sees(who, top)) {
            return NONE;
        }
        List<Integer> found = new ArrayList<>();
        for (int name = 0; name < names.size(); name++) {
            if (names.get(name).file != null && names.get(name).in == top) {
                found.add(name);
            }
        }
        Integer name = at(found, i);
        return name == null ? NONE : name;
    }

    int snapshot() {
        for (int number = 0; number < 8; number++) {
            if (!snapshots.containsKey(number)) {
                snapshots.put(number, blocksOf(filesThere()));
                return number;
            }
        }
        return NONE;
    }

    int drop(int snapshot) {
        if (!snapshots.containsKey(snapshot)) {
            return NONE;
        }
        int before = had().size();
        snapshots.remove(snapshot);
        return before - had().size();
    }

    int alone(int snapshot) {
        if (!snapshots.containsKey(snapshot)) {
            return NONE;
        }
        Set<Integer> held = new HashSet<>(snapshots.get(snapshot));
        held.removeAll(blocksOf(filesThere()));
        for (int other : snapshots.keySet()) {
            if (other != snapshot) {
                held.removeAll(snapshots.get(other));
            }
        }
        return held.size();
    }

    int mark() {
        if (marks.size() == 20) {
            return NONE;
        }
        Mark mark = new Mark();
        mark.day = now;
        for (Folder folder : folders) {
            mark.taken.put(folder, blocksOf(filesOf(folder)).size());
        }
        marks.add(mark);
        return marks.size() - 1;
    }

    int grew(int folder, int from, int to) {
        Folder top = at(folders, folder);
        Mark first = at(marks, from);
        Mark last = at(marks, to);
        if (top == null || first == null || last == null && to != NONE) {
            return Integer.MIN_VALUE;
        }
        int taken = last == null ? blocksOf(filesOf(top)).size() : last.taken.getOrDefault(top, 0);
        return taken - first.taken.getOrDefault(top, 0);
    }

    int freed(int folder) {
        Folder top = at(folders, folder);
        if (top == null) {
            return NONE;
        }
        Set<Stored> going = filesOf(top);
        for (Name name : names) {
            if (!isBelow(name.in, top)) {
                going.remove(name.file);
            }
        }
        return freedBy(going);
    }

    int both(int a, int b) {
        if (fileAt(a) == null || fileAt(b) == null) {
            return NONE;
        }
        return freedBy(new HashSet<>(List.of(fileAt(a), fileAt(b)).subList(a == b ? 1 : 0, 2)));
    }

    private List<Integer> numbersOf(Set<Stored> set) {
        List<Integer> found = new ArrayList<>();
        for (Stored file : set) {
            found.add(files.indexOf(file));
        }
        Collections.sort(found);
        return found;
    }

    /** The numbers of the plan's files, the sum of worth put ahead of them; null if there is no plan. */
    private List<Integer> planOf(int folder, int n) {
        Folder top = at(folders, folder);
        if (top == null || n < 1 || n > 60 || filesOf(top).size() > 12) {
            return null;
        }
        List<Integer> numbers = numbersOf(filesOf(top));
        List<Integer> best = null;
        for (int bits = 0; bits < 1 << numbers.size(); bits++) {
            List<Integer> chosen = new ArrayList<>(List.of(0));
            Set<Stored> going = new HashSet<>();
            for (int i = 0; i < numbers.size(); i++) {
                if ((bits >> i & 1) == 1) {
                    chosen.add(numbers.get(i));
                    chosen.set(0, chosen.get(0) + files.get(numbers.get(i)).worth);
                    going.add(files.get(numbers.get(i)));
                }
            }
            if ((best == null || chosen.get(0) < best.get(0)) && freedBy(going) >= n) {
                best = chosen;
            }
        }
        return best;
    }

    int plan(int folder, int n) {
        List<Integer> best = planOf(folder, n);
        return best == null ? NONE : best.get(0);
    }

    int planned(int folder, int n, int k) {
        List<Integer> best = k < 0 || k > 40 ? null : planOf(folder, n);
        Integer file = best == null ? null : at(best, k + 1);
        return file == null ? NONE : file;
    }

    int largest(int folder, int k) {
        if (at(folders, folder) == null) {
            return NONE;
        }
        List<Integer> numbers = numbersOf(filesOf(folders.get(folder)));
        numbers.sort((a, b) -> files.get(b).blocks().size() - files.get(a).blocks().size());
        Integer file = at(numbers, k);
        return file == null ? NONE : file;
    }

    boolean holds(int blocks) {
        if (blocks < 1 || blocks > 60 || had().size() > blocks) {
            return false;
        }
        holds = blocks;
        return true;
    }

    int full(int what) {
        List<Integer> growth = new ArrayList<>();
        for (int i = 0; i + 1 < marks.size(); i++) {
            double days = marks.get(i + 1).day - marks.get(i).day;
            double more = marks.get(i + 1).taken.get(folders.get(0)) - marks.get(i).taken.get(folders.get(0));
            if (days > 0) {
                growth.add((int) (what == 0 ? Math.ceil(more / days) : Math.floor(more / days)));
            }
        }
        if (what < 0 || what > 1 || growth.isEmpty()) {
            return NONE;
        }
        int daily = what == 0 ? Collections.max(growth) : Collections.min(growth);
        double lacks = holds - blocksOf(filesThere()).size();
        return daily <= 0 ? NONE : now + (int) Math.ceil(lacks / daily);
    }

    int told(int file, int what) {
        Stored found = fileAt(file);
        if (found == null) {
            return NONE;
        }
        int[] all = {found.places.size(), found.owner, found.worth, found.day, namesOf(found),
            found.blocks().size(), Collections.frequency(found.places, NONE)};
        return what < 0 || what >= all.length ? NONE : all[what];
    }

    int count(int what) {
        int there = 0;
        for (Name name : names) {
            there += name.file == null ? 0 : 1;
        }
        int[] all = {now, folders.size(), filesThere().size(), there, snapshots.size(), marks.size(),
            had().size(), holds};
        return what < 0 || what >= all.length ? NONE : all[what];
    }
}

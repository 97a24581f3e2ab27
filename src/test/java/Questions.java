import java.util.ArrayList;
import java.util.List;
import java.util.function.Supplier;

/**
 * All that can be asked of a store without a change, and what would come next in it. The store is made
 * anew after each part of the questions: the document tells nothing of an object after its 512th call.
 */
final class Questions {
    private static final int A_PART = 250;
    private static final int EVERYBODY = 6;

    private final List<int[]> all = new ArrayList<>();

    /** For a store in which so many came; one more of each is asked for, as it must not be there. */
    Questions(int folders, int files, int names, int marks) {
        addStore(names);
        for (int folder = 0; folder <= folders; folder++) {
            addFolder(folder, files, names);
            addGrowth(folder, marks);
        }
        for (int file = 0; file <= files; file++) {
            addFile(file);
        }
    }

    private void add(int kind, int a, int b, int c) {
        all.add(new int[] {kind, a, b, c});
    }

    private void addStore(int names) {
        for (int number = 0; number < 8; number++) {
            add(0, number, 0, 0);
            add(1, number, 0, 0);
        }
        add(2, 0, 0, 0);
        add(2, 1, 0, 0);
        for (int name = 0; name <= names; name++) {
            add(3, name, 0, 0);
        }
    }

    private void addFolder(int folder, int files, int names) {
        for (int who = 0; who < EVERYBODY; who++) {
            for (int what = 0; what < 3; what++) {
                add(4, folder, who, what);
            }
            add(5, folder, who, 0);
        }
        for (int i = 1; i <= names; i++) {
            add(5, folder, 0, i);
        }
        for (int k = 0; k <= files; k++) {
            add(6, folder, k, 0);
        }
        for (int n = 1; n < 4; n++) {
            add(7, folder, n, 0);
            add(8, folder, n, 0);
        }
        add(9, folder, 0, 0);
    }

    private void addGrowth(int folder, int marks) {
        for (int mark = 0; mark <= marks; mark++) {
            add(10, folder, mark, RoomGone.NONE);
            add(10, folder, mark, mark + 1);
        }
    }

    private void addFile(int file) {
        for (int what = 0; what < 7; what++) {
            add(11, file, what, 0);
        }
        for (int place = 0; place < 60; place++) {
            add(12, file, place, 0);
        }
        add(13, file, file, 0);
        add(13, file, 0, 0);
    }

    String answersOf(Supplier<RoomGone> maker) {
        StringBuilder answers = new StringBuilder();
        for (int from = 0; from < all.size(); from += A_PART) {
            RoomGone store = maker.get();
            for (int[] q : all.subList(from, Math.min(from + A_PART, all.size()))) {
                answers.append(answer(store, q[0], q[1], q[2], q[3])).append(' ');
            }
        }
        return answers.append(whatComesNext(maker.get())).toString();
    }

    private static int answer(RoomGone store, int kind, int a, int b, int c) {
        switch (kind) {
            case 0:
                return store.count(a);
            case 1:
                return store.alone(a);
            case 2:
                return store.full(a);
            case 3:
                return store.of(a);
            case 4:
                return store.sum(a, b, c);
            case 5:
                return store.named(a, b, c);
            case 6:
                return store.largest(a, b);
            case 7:
                return store.plan(a, b);
            case 8:
                return store.planned(a, b, c);
            case 9:
                return store.freed(a);
            case 10:
                return store.grew(a, b, c);
            case 11:
                return store.told(a, b);
            case 12:
                return store.block(a, b);
            default:
                return store.both(a, b);
        }
    }

    /** How many numbers came so far, and which blocks snapshots have, is seen by what comes next. */
    private static String whatComesNext(RoomGone store) {
        StringBuilder next = new StringBuilder();
        next.append(store.folder(0, 0, false)).append(' ').append(store.link(0, 0)).append(' ');
        int name = store.file(0, 0, 0);
        int file = store.of(name);
        next.append(name).append(' ').append(file).append(' ');
        for (int place = 0; place < 60; place++) {
            next.append(store.write(file, place)).append(' ');
        }
        next.append(store.snapshot()).append(' ').append(store.mark()).append(' ').append(store.go(1)).append(' ');
        for (int snapshot = 0; snapshot < 8; snapshot++) {
            next.append(store.drop(snapshot)).append(' ');
        }
        return next.toString();
    }
}

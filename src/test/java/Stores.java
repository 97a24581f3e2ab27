/** Makes stores for the tests, and takes all that they tell of themselves. */
final class Stores {
    /** Numbers that are near the edges of what a call takes, or far beyond them. */
    static final int[] WILD = {
        Integer.MIN_VALUE, -1000, -2, -1, 0, 1, 5, 6, 7, 8, 12, 19, 20, 29, 30, 31, 32, 39, 40, 59, 60, 61,
        63, 64, 99, 100, 500, 501, 999, 1000, 5000, 5001, Integer.MAX_VALUE
    };

    private Stores() {
    }

    /** A file in the root, of worth 1, with so many blocks of its own: its number. */
    static int fileOf(RoomGone store, int blocks) {
        return fileIn(store, 0, 1, blocks);
    }

    static int fileIn(RoomGone store, int folder, int worth, int blocks) {
        int file = store.of(store.file(folder, 0, worth));
        append(store, file, blocks);
        return file;
    }

    static void append(RoomGone store, int file, int blocks) {
        for (int i = 0; i < blocks; i++) {
            store.write(file, store.told(file, 0));
        }
    }

    static void goFar(RoomGone store, int days) {
        for (int left = days; left > 0; left -= Math.min(left, 500)) {
            store.go(Math.min(left, 500));
        }
    }

    /** All that can be asked without a change, as a text. */
    static String stateOf(RoomGone store) {
        StringBuilder all = new StringBuilder();
        for (int what = 0; what < 8; what++) {
            all.append(store.count(what)).append(' ');
        }
        addFolders(store, all);
        addFiles(store, all);
        for (int name = 0; name < 100; name++) {
            all.append(store.of(name)).append(' ');
        }
        for (int snapshot = 0; snapshot < 8; snapshot++) {
            all.append(store.alone(snapshot)).append(' ');
        }
        return all.append(store.full(0)).append(' ').append(store.full(1)).toString();
    }

    private static void addFolders(RoomGone store, StringBuilder all) {
        for (int folder = 0; folder < store.count(1); folder++) {
            for (int who = 0; who < 6; who++) {
                all.append(store.sum(folder, who, 0)).append(' ').append(store.sum(folder, who, 1)).append(' ')
                    .append(store.sum(folder, who, 2)).append(' ').append(store.named(folder, who, 0)).append(' ');
            }
            for (int mark = 0; mark < store.count(5); mark++) {
                all.append(store.grew(folder, mark, RoomGone.NONE)).append(' ');
            }
        }
    }

    private static void addFiles(RoomGone store, StringBuilder all) {
        for (int file = 0; file < 40; file++) {
            for (int what = 0; what < 7; what++) {
                all.append(store.told(file, what)).append(' ');
            }
            for (int place = 0; place < 60; place++) {
                all.append(store.block(file, place)).append(' ');
            }
        }
    }
}

/** Makes stores for the tests. */
final class Stores {
    /** Numbers that are near the edges of what a call takes, or far beyond them. */
    static final int[] WILD = {
        Integer.MIN_VALUE, -1000, -2, -1, 0, 1, 5, 6, 7, 8, 12, 19, 20, 29, 30, 31, 32, 39, 40, 59, 60, 61,
        63, 64, 99, 100, 500, 501, 999, 1000, 5000, 5001, Integer.MAX_VALUE
    };

    private Stores() {
    }

    /** A file in the root, of worth 1, with so many blocks of its own: its number. */
    static int fileOf(RoomGone store, int blocks) {
        return fileIn(store, 0, 1, blocks);
    }

    static int fileIn(RoomGone store, int folder, int worth, int blocks) {
        int file = store.of(store.file(folder, 0, worth));
        append(store, file, blocks);
        return file;
    }

    static void append(RoomGone store, int file, int blocks) {
        for (int i = 0; i < blocks; i++) {
            store.write(file, store.told(file, 0));
        }
    }

    static void goFar(RoomGone store, int days) {
        for (int left = days; left > 0; left -= Math.min(left, 500)) {
            store.go(Math.min(left, 500));
        }
    }
}

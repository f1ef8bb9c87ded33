import java.util.Arrays;
import java.util.function.Supplier;

/** All that can be asked of an object. The supplier gives one that may still be asked. */
final class View {
    private static final int[] PORT = {0, 1, 2, 3, 4, 5, 6, 7, 8, 9, 10, 11};
    private static final int[] STATION = {0, 1, 2, 3, 4};
    private static final int[] SERVER = {0, 1, 2, 3};

    private final Supplier<Face> at;

    private View(Supplier<Face> at) {
        this.at = at;
    }

    static View of(Face face) {
        return new View(() -> face);
    }

    /** Looks at copies, a new one when the last one has no calls left, and so makes no call of the guard itself. */
    static View of(Guard guard) {
        Guard[] copy = {guard.copy()};
        return new View(() -> {
            if (copy[0].calls() >= Guard.PROMISED) {
                copy[0] = guard.copy();
            }
            return copy[0];
        });
    }

    int waiting() {
        return at.get().waiting();
    }

    int[] bytes(int k) {
        int[] row = new int[Math.max(0, at.get().message(k, 2))];
        for (int i = 0; i < row.length; i++) {
            row[i] = at.get().message(k, 3 + i);
        }
        return row;
    }

    int[] port(int p) {
        return Arrays.stream(PORT).map(what -> at.get().port(p, what)).toArray();
    }

    int[] station(int h) {
        return Arrays.stream(STATION).map(what -> at.get().station(h, what)).toArray();
    }

    int[] server(int s) {
        return Arrays.stream(SERVER).map(what -> at.get().server(s, what)).toArray();
    }

    /** All but what waits and what was wrong. */
    String state() {
        StringBuilder text = new StringBuilder();
        for (int p = 0; p < 4; p++) {
            text.append("\nport ").append(p).append(": ").append(Arrays.toString(port(p)));
            text.append(" host: ").append(Arrays.toString(station(p)));
        }
        for (int s = 0; s < 2; s++) {
            text.append("\nserver ").append(s).append(": ").append(Arrays.toString(server(s)));
        }
        text.append("\nlearned:");
        for (int a = 0; a < 8; a++) {
            text.append(' ').append(at.get().learned(a));
        }
        return text.append("\nfavourite: ").append(at.get().favourite()).toString();
    }

    String wrongs() {
        return "\nwrong: " + at.get().wrong(0) + " " + at.get().wrong(1) + " " + at.get().wrong(2);
    }

    String messages() {
        StringBuilder text = new StringBuilder();
        int waiting = at.get().waiting();
        for (int k = 0; k < waiting; k++) {
            text.append("\nway ").append(at.get().message(k, 0)).append(" place ").append(at.get().message(k, 1));
            text.append(": ").append(Arrays.toString(bytes(k)));
        }
        return text.append("\nwaiting: ").append(waiting).toString();
    }

    String all() {
        return state() + wrongs() + messages();
    }
}

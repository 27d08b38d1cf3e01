import java.util.Random;

/** Draws LINES and what calls are given, the same ones for the same seed; most of it such that it is not refused. */
final class Draws {
    private static final String SORTS = "pcdks";
    /** Where something is drawn that may be refused: the ends of what is told, and far beyond. */
    private static final int[] WILD = {Integer.MIN_VALUE, -1000001, -2, -1, 0, 1, 2, 3, 5, 6, 7, 8, 16, 17, 21, 24, 25,
        40, 41, 60, 61, 100, 255, 256, 999999, 1000000, Integer.MAX_VALUE};

    private final Random random;

    Draws(long seed) {
        random = new Random(seed);
    }

    int below(int n) {
        return random.nextInt(n);
    }

    boolean oneOf(int n) {
        return random.nextInt(n) == 0;
    }

    /** A text that is a LINE. */
    String line() {
        StringBuilder text = new StringBuilder();
        int stops = 2 + below(7);
        int bound = oneOf(3) ? below(41) : below(12);
        text.append('t').append(stops).append(',').append(bound).append(';');
        int people = oneOf(4) ? 6 : below(7);
        // doubters in each other's way make the longest runs
        String sorts = oneOf(3) ? "dddds" : SORTS;
        for (int p = 0; p < people; p++) {
            text.append(person(sorts, stops));
        }
        return text.toString();
    }

    /** A text that may be a LINE, or have a FAULT. */
    String tape() {
        StringBuilder text = new StringBuilder(line());
        if (oneOf(12)) {
            text.append(person(SORTS, 2));
        }
        if (oneOf(3)) {
            disturb(text);
        }
        return text.toString();
    }

    private String person(String sorts, int stops) {
        return sorts.charAt(below(sorts.length())) + "" + below(stops) + ',' + below(21) + ',' + below(stops) + ';';
    }

    private void disturb(StringBuilder text) {
        String signs = "0123456789,;tpcdksxT ?" + (char) 0 + (char) 255;
        int times = 1 + below(2);
        for (int k = 0; k < times && text.length() > 0; k++) {
            int at = below(text.length());
            char sign = signs.charAt(below(signs.length()));
            switch (below(4)) {
                case 0 -> text.setCharAt(at, sign);
                case 1 -> text.insert(at, sign);
                case 2 -> text.deleteCharAt(at);
                default -> text.setLength(at);
            }
        }
    }

    /** What a call of that name is given. */
    int[] arguments(String name, int many) {
        int[] drawn = new int[many];
        for (int i = 0; i < many; i++) {
            drawn[i] = oneOf(25) ? WILD[below(WILD.length)] : argument(name + i);
        }
        return drawn;
    }

    /** Numbers that are mostly refused. */
    int[] wild(int many) {
        int[] drawn = new int[many];
        for (int i = 0; i < many; i++) {
            drawn[i] = WILD[below(WILD.length)];
        }
        return drawn;
    }

    private int argument(String place) {
        return switch (place) {
            case "row1" -> below(3);
            case "row2", "set1", "copy4" -> below(oneOf(2) ? 6 : 41);
            case "set2" -> oneOf(3) ? random.nextInt() : below(9) - 1;
            case "feed0" -> below(256);
            case "minutes0" -> 1 + below(oneOf(3) ? 24 : 3);
            case "preach1" -> below(21);
            case "where1", "tram0", "there0", "walkers0", "drawn0" -> below(oneOf(2) ? 10 : 61);
            case "drawn1" -> 1 + below(999999);
            case "rain1" -> below(11);
            case "fits3", "bounds2" -> 1 + below(oneOf(2) ? 3 : 16);
            case "fits2", "bounds1", "copy1", "copy3" -> below(5);
            case "person1", "count0", "trace0", "wish1", "stop0", "call0", "rain0", "as1" -> below(8);
            case "walk1", "stop1", "call1", "go1", "walkers1", "fits4", "rain2", "drawn2", "image0", "restore0", "ask1" ->
                below(2);
            default -> below(6);
        };
    }
}

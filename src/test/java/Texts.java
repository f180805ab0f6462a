import java.util.Random;

/** Random texts of workflows. */
final class Texts {
    private final Random random;
    private int left;

    Texts(Random random) {
        this.random = random;
    }

    /** A text of at most 80 bytes: mostly right, sometimes with a byte changed, put in or left out. */
    String text() {
        String text = right();
        if (random.nextInt(5) > 0) {
            return text;
        }
        int at = random.nextInt(text.length() + 1);
        String signs = "twsx[(])|;:<=+-,qrc0123456789abhij";
        char sign = signs.charAt(random.nextInt(signs.length()));
        switch (random.nextInt(4)) {
            case 0: return text.substring(0, at);
            case 1: return text.substring(0, at) + text.substring(Math.min(at + 1, text.length()));
            case 2: return cut(text.substring(0, at) + sign + text.substring(at));
            default: return cut(text.substring(0, at) + sign + text.substring(Math.min(at + 1, text.length())));
        }
    }

    /** A text that keeps the form, but perhaps not the limits. */
    String right() {
        for (int i = 0; i < 1000; i++) {
            left = 1 + random.nextInt(16);
            String text = body(random.nextInt(12) == 0 ? 5 : 4);
            if (text.length() <= 80) {
                return text;
            }
        }
        return "ta";
    }

    private static String cut(String text) {
        return text.substring(0, Math.min(80, text.length()));
    }

    private String body(int depth) {
        StringBuilder text = new StringBuilder(item(depth));
        while (left > 0 && random.nextInt(3) > 0) {
            text.append(';').append(item(depth));
        }
        return text.toString();
    }

    private String item(int depth) {
        left--;
        int sort = random.nextInt(depth > 0 && left > 0 ? 20 : 14);
        if (sort < 8) {
            return task();
        }
        if (sort < 10) {
            return "w" + random.nextInt(random.nextInt(4) == 0 ? 15 : 4);
        }
        if (sort < 12) {
            return "s" + letter() + (random.nextInt(3) == 0 ? "" : "," + random.nextInt(7));
        }
        if (sort < 14) {
            return "x" + random.nextInt(4) + (random.nextBoolean() ? "=" : "+") + number();
        }
        if (sort < 16) {
            return "[x" + random.nextInt(4) + "<" + number() + ":" + body(depth - 1) + "|" + body(depth - 1) + "]";
        }
        return parallel(depth);
    }

    private String task() {
        StringBuilder text = new StringBuilder("t").append(letter());
        if (random.nextInt(2) == 0) {
            text.append('r').append(random.nextInt(random.nextInt(5) == 0 ? 10 : 3));
            if (random.nextInt(2) == 0) {
                text.append('+').append(random.nextInt(random.nextInt(20) == 0 ? 1000 : 4));
            }
        }
        if (random.nextInt(3) > 0) {
            text.append('c').append(letter());
        }
        return text.toString();
    }

    private String parallel(int depth) {
        int bodies = 1 + random.nextInt(random.nextInt(20) == 0 ? 5 : 4);
        StringBuilder text = new StringBuilder("(").append(body(depth - 1));
        for (int i = 1; i < bodies; i++) {
            text.append('|').append(body(depth - 1));
        }
        text.append(')');
        if (random.nextInt(3) > 0) {
            text.append('q').append(1 + random.nextInt(bodies));
        }
        return text.toString();
    }

    private char letter() {
        return (char) ('a' + random.nextInt(random.nextInt(3) == 0 ? 8 : 3));
    }

    private String number() {
        int number = random.nextInt(random.nextInt(5) == 0 ? 1000 : 5);
        return (random.nextInt(3) == 0 ? "-" : "") + number;
    }
}

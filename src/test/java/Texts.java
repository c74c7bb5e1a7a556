import java.util.Random;

/** Makes programs at random, and texts that are nearly programs. */
final class Texts {
    private final Random random;
    private final StringBuilder text = new StringBuilder();

    Texts(Random random) {
        this.random = random;
    }

    /** A PROGRAM of at most 72 characters, but perhaps too deep. */
    String program() {
        do {
            text.setLength(0);
            writeStart();
            writeProgram(1);
        } while (text.length() > 72);
        return text.toString();
    }

    /** A PROGRAM with a few characters changed, so that most are none. */
    String nearProgram() {
        String signs = "abj k019+-*/%()[]{}:|;=?!,";
        StringBuilder changed = new StringBuilder(program());
        int changes = 1 + random.nextInt(2);
        for (int i = 0; i < changes; i++) {
            int place = random.nextInt(changed.length());
            char sign = signs.charAt(random.nextInt(signs.length()));
            int way = random.nextInt(3);
            if (way == 0) {
                changed.setCharAt(place, sign);
            } else if (way == 1) {
                changed.deleteCharAt(place);
            } else {
                changed.insert(place, sign);
            }
            if (changed.length() == 0) {
                return "";
            }
        }
        String whole = changed.toString().replace(" ", "");
        return whole.length() > 72 ? whole.substring(0, 72) : whole;
    }

    /** Often there are variables other than 0 at once, so that not all is 0 and divided by 0. */
    private void writeStart() {
        int count = random.nextInt(4);
        for (int i = 0; i < count; i++) {
            text.append((char) ('a' + i)).append('=');
            writeNumber();
            text.append(';');
        }
    }

    private void writeProgram(int depth) {
        int count = 1 + random.nextInt(depth == 1 ? 7 : 3);
        for (int i = 0; i < count && text.length() <= 72; i++) {
            if (i > 0) {
                text.append(';');
            }
            writeStatement(depth);
        }
    }

    private void writeStatement(int depth) {
        int kind = random.nextInt(depth < 11 ? 10 : 7);
        if (kind == 0) {
            text.append('?').append(name());
        } else if (kind <= 2) {
            text.append('!');
            writeExpr(depth);
        } else if (kind <= 6) {
            text.append(name()).append('=');
            writeExpr(depth);
        } else if (kind <= 8) {
            writeLoop(depth);
        } else {
            text.append('{');
            writeExpr(depth);
            text.append(':');
            writeProgram(depth + 1);
            text.append('|');
            writeProgram(depth + 1);
            text.append('}');
        }
    }

    private void writeLoop(int depth) {
        text.append('[');
        if (random.nextInt(4) == 0) {
            text.append("1:");
            writeProgram(depth + 1);
        } else if (random.nextBoolean()) {
            char counter = name();
            text.append(counter).append(':');
            writeProgram(depth + 1);
            text.append(';').append(counter).append('=').append(counter).append("-1");
        } else {
            writeExpr(depth);
            text.append(':');
            writeProgram(depth + 1);
        }
        text.append(']');
    }

    private void writeExpr(int depth) {
        writeFactor(depth);
        while (random.nextInt(5) < 2 && text.length() <= 72) {
            char sign = "+-*/%*+*".charAt(random.nextInt(8));
            text.append(sign);
            if ((sign == '/' || sign == '%') && random.nextInt(3) > 0) {
                text.append((char) ('1' + random.nextInt(9)));
            } else {
                writeFactor(depth);
            }
        }
    }

    private void writeFactor(int depth) {
        int kind = random.nextInt(12);
        if (kind == 0 && depth < 12) {
            text.append('-');
            writeFactor(depth + 1);
        } else if (kind == 1 && depth < 12) {
            text.append('(');
            writeExpr(depth + 1);
            text.append(')');
        } else if (kind <= 4) {
            writeNumber();
        } else {
            text.append(name());
        }
    }

    private void writeNumber() {
        int digits = 1 + random.nextInt(random.nextInt(9) + 1);
        for (int i = 0; i < digits; i++) {
            text.append((char) ('0' + random.nextInt(10)));
        }
    }

    /** Few names, so that they are used again. */
    private char name() {
        return random.nextInt(10) == 0 ? (char) ('a' + random.nextInt(10)) : (char) ('a' + random.nextInt(4));
    }
}

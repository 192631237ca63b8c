import java.util.Random;

/** Texts of rules, most of them good, some with a byte or a piece spoilt. */
final class RandomText {
    private static final String[] PIECES = {"or", "and", "not", "water", "colour", "heat", "pollen",
        "land", "min", "max", "from", ":", ";", "(", ")", "0", "4", "5", "1000", "1001", "30001",
        "12345", "123456", "000000", "abcdefghijkl", "abcdefghijklm", "x", "A", "\t", "\u00ff"};
    private static final String[] NAMES = {"a", "b", "bloom", "hill", "abcdefghijkl", "orand"};

    private final Random random;
    private final StringBuilder text = new StringBuilder();

    RandomText(Random random) {
        this.random = random;
    }

    String make() {
        piece(NAMES[random.nextInt(NAMES.length)]);
        piece(":");
        int limit = random.nextInt(8) == 0 ? 8 : 6;
        either(0, limit);
        piece("from");
        piece("" + (random.nextInt(10) == 0 ? random.nextInt(33000) : random.nextInt(40)));
        piece(";");
        if (random.nextInt(4) == 0) {
            text.append(" ");
        }
        spoil();
        return text.toString();
    }

    private void piece(String next) {
        if (random.nextInt(200) == 0) {
            next = PIECES[random.nextInt(PIECES.length)];
        }
        boolean needs = text.length() > 0 && alike(text.charAt(text.length() - 1), next.charAt(0));
        if (needs && random.nextInt(150) != 0 || random.nextInt(4) == 0) {
            text.append(random.nextInt(3) == 0 ? '\n' : ' ');
        }
        text.append(next);
    }

    private static boolean alike(char a, char b) {
        return Character.isLetter(a) && Character.isLetter(b)
            || Character.isDigit(a) && Character.isDigit(b);
    }

    private void either(int open, int limit) {
        int more = random.nextInt(3);
        one(open, limit);
        for (int k = 0; k < more && text.length() < 250; k++) {
            piece(random.nextBoolean() ? "and" : "or");
            one(open, limit);
        }
    }

    private void one(int open, int limit) {
        int roll = open >= limit ? 9 : random.nextInt(10);
        if (roll < 3) {
            piece("(");
            either(open + 1, limit);
            piece(")");
        } else if (roll < 6) {
            piece("not");
            one(open + 1, limit);
        } else {
            test();
        }
    }

    private void test() {
        String[] words = {"water", "colour", "heat", "pollen", "land", "pollen"};
        String word = words[random.nextInt(words.length)];
        piece(word);
        if (word.equals("pollen") || word.equals("land")) {
            piece("" + random.nextInt(random.nextInt(20) == 0 ? 7 : 4));
        }
        piece(random.nextBoolean() ? "min" : "max");
        int[] near = {150, 100, 5, 400, 300};
        int bound = near[random.nextInt(near.length)] + random.nextInt(100);
        piece("" + (random.nextInt(40) == 0 ? 1001 : bound));
    }

    private void spoil() {
        if (random.nextInt(6) != 0) {
            return;
        }
        int at = random.nextInt(text.length());
        switch (random.nextInt(4)) {
            case 0: text.setLength(at); break;
            case 1: text.deleteCharAt(at); break;
            case 2: text.setCharAt(at, (char) random.nextInt(256)); break;
            default: text.insert(at, PIECES[random.nextInt(PIECES.length)]);
        }
    }
}

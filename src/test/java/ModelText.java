import java.util.ArrayDeque;
import java.util.ArrayList;
import java.util.Deque;
import java.util.List;
import java.util.Set;
import java.util.regex.Matcher;
import java.util.regex.Pattern;

/** A rule's text, read by a table of states instead of by descent; for ModelHouse alone. */
final class ModelText {
    private static final Pattern PIECE = Pattern.compile("[a-z]+|[0-9]+|[^ \n]", Pattern.DOTALL);
    private static final Set<String> KEPT = Set.of("or", "and", "not", "water", "colour", "heat",
        "pollen", "land", "min", "max", "from");

    private enum State { NAME, COLON, ONE, KIND, LAND, MIN_MAX, VALUE, AFTER, DAY, SEMICOLON, DONE }

    /** What a test asks of: low and high of a measure, each told as a fraction by the model. */
    interface Measures {
        /** Whether the low (or high) side of a measure, compared with n, has this sign or is 0. */
        boolean holds(String word, int number, boolean high, boolean isMax, int n);
    }

    int fault;
    int place = -1;
    String name;
    int from;
    private final List<String> pieces = new ArrayList<>();
    private int at;
    private Measures measures;

    ModelText(String text) {
        Deque<String> open = new ArrayDeque<>();
        State state = State.NAME;
        Matcher m = PIECE.matcher(text);
        while (m.find() && fault == 0) {
            pieces.add(m.group());
            state = next(state, m.group(), m.start(), open);
        }
        if (fault == 0 && state != State.DONE) {
            fail(1, text.length());
        }
    }

    private State fail(int kind, int where) {
        fault = kind;
        place = where;
        return State.DONE;
    }

    private State number(String piece, int where, int most, State then) {
        if (!Character.isDigit(piece.charAt(0)) || piece.charAt(0) > '9') {
            return fail(1, where);
        }
        if (piece.length() > 5) {
            return fail(1, where + 5);
        }
        return Integer.parseInt(piece) > most ? fail(2, where) : then;
    }

    private State next(State state, String piece, int where, Deque<String> open) {
        switch (state) {
            case NAME:
                name = piece;
                if (!piece.matches("[a-z]+") || KEPT.contains(piece)) {
                    return fail(1, where);
                }
                return piece.length() > 12 ? fail(1, where + 12) : State.COLON;
            case COLON:
                return piece.equals(":") ? State.ONE : fail(1, where);
            case ONE:
                return one(piece, where, open);
            case KIND:
                return number(piece, where, 4, State.MIN_MAX);
            case LAND:
                return number(piece, where, 3, State.MIN_MAX);
            case MIN_MAX:
                return piece.equals("min") || piece.equals("max") ? State.VALUE : fail(1, where);
            case VALUE:
                closeNots(open);
                return number(piece, where, 1000, State.AFTER);
            case AFTER:
                return after(piece, where, open);
            case DAY:
                State then = number(piece, where, 30000, State.SEMICOLON);
                from = fault == 0 ? Integer.parseInt(piece) : 0;
                return then;
            case SEMICOLON:
                return piece.equals(";") ? State.DONE : fail(1, where);
            default:
                return fail(1, where);
        }
    }

    private State one(String piece, int where, Deque<String> open) {
        switch (piece) {
            case "(":
            case "not":
                open.push(piece);
                return open.size() > 6 ? fail(3, where) : State.ONE;
            case "water":
            case "colour":
            case "heat":
                return State.MIN_MAX;
            case "pollen":
                return State.KIND;
            case "land":
                return State.LAND;
            default:
                return fail(1, where);
        }
    }

    private State after(String piece, int where, Deque<String> open) {
        if (piece.equals("and") || piece.equals("or")) {
            return State.ONE;
        }
        if (piece.equals(")") && !open.isEmpty()) {
            open.pop();
            closeNots(open);
            return State.AFTER;
        }
        return piece.equals("from") && open.isEmpty() ? State.DAY : fail(1, where);
    }

    private static void closeNots(Deque<String> open) {
        while (!open.isEmpty() && open.peek().equals("not")) {
            open.pop();
        }
    }

    /** Whether it is sure (or else: possible), by the words of the document. */
    boolean is(boolean sure, Measures of) {
        measures = of;
        at = 2;
        return either(sure);
    }

    private boolean either(boolean sure) {
        boolean all = both(sure);
        while (pieces.get(at).equals("or")) {
            at++;
            boolean more = both(sure);
            all = all || more;
        }
        return all;
    }

    private boolean both(boolean sure) {
        boolean all = unit(sure);
        while (pieces.get(at).equals("and")) {
            at++;
            boolean more = unit(sure);
            all = all && more;
        }
        return all;
    }

    private boolean unit(boolean sure) {
        String piece = pieces.get(at++);
        if (piece.equals("not")) {
            return !unit(!sure);
        }
        if (piece.equals("(")) {
            boolean inside = either(sure);
            at++;
            return inside;
        }
        boolean numbered = piece.equals("pollen") || piece.equals("land");
        int number = numbered ? Integer.parseInt(pieces.get(at++)) : 0;
        boolean isMax = pieces.get(at++).equals("max");
        int n = Integer.parseInt(pieces.get(at++));
        // The side that is hardest to meet for sure, the easiest one for possible.
        boolean high = isMax == sure;
        return measures.holds(piece, number, high, isMax, n);
    }
}

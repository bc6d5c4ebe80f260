import java.util.ArrayList;
import java.util.List;
import java.util.regex.Matcher;
import java.util.regex.Pattern;

/** Reads the text of a HAND RULE, cut into WORDS, NUMBERS and other bytes ahead of it. */
final class PlainReader {
    private record Token(String text, int place) {
    }

    private static final List<String> KINDS = List.of("from", "list", "word", "above", "below");
    private static final int[] BASES = {0, 16, 24, 100, 1100};
    private static final int[] GREATEST = {15, 7, 15, 999, 999};

    private final List<Token> tokens = new ArrayList<>();
    private int next = 0;

    PlainReader(String text) {
        Matcher matcher = Pattern.compile("[a-z]+|[0-9]+|[^ ]", Pattern.DOTALL).matcher(text);
        while (matcher.find()) {
            tokens.add(new Token(matcher.group(), matcher.start()));
        }
        tokens.add(new Token("", text.length()));
    }

    private Token take() {
        Token taken = tokens.get(next);
        next = Math.min(next + 1, tokens.size() - 1);
        return taken;
    }

    private static Integer fault(Token token, int kind) {
        return 1 + 8 * token.place() + kind;
    }

    /** The fault of a token as a NUMBER; null without one. */
    private static Integer faultOfNumber(Token token, int greatest) {
        if (!token.text().matches("[0-9]+")) {
            return fault(token, 0);
        }
        boolean asTold = token.text().length() <= 3 && Integer.parseInt(token.text()) <= greatest;
        return asTold ? null : fault(token, 1);
    }

    /** A fault, or the FOLDER and the CODES behind it. */
    Object read() {
        List<Integer> told = new ArrayList<>();
        Token first = take();
        if (!first.text().equals("all") && !first.text().equals("if")) {
            return fault(first, 0);
        }
        boolean tests = first.text().equals("if");
        Token link = tests ? null : take();
        while (tests) {
            Token word = take();
            int kind = KINDS.indexOf(word.text());
            if (kind < 0) {
                return fault(word, 0);
            }
            if (told.size() == 4) {
                return fault(word, 2);
            }
            Token number = take();
            Integer wrong = faultOfNumber(number, GREATEST[kind]);
            if (wrong != null) {
                return wrong;
            }
            told.add(BASES[kind] + Integer.parseInt(number.text()));
            link = take();
            tests = link.text().equals("and");
        }
        if (!link.text().equals("to")) {
            return fault(link, 0);
        }
        Token folder = take();
        Integer wrong = faultOfNumber(folder, 7);
        if (wrong != null) {
            return wrong;
        }
        Token rest = take();
        if (!rest.text().isEmpty()) {
            return fault(rest, 3);
        }
        told.add(0, Integer.parseInt(folder.text()));
        return told.stream().mapToInt(Integer::intValue).toArray();
    }
}

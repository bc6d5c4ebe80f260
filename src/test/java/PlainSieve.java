import java.util.ArrayList;
import java.util.Arrays;
import java.util.HashMap;
import java.util.List;
import java.util.Map;
import java.util.TreeSet;

/**
 * The document told a second time, as plainly as can be and without regard to speed: each COST is
 * counted from its definition, texts are cut into tokens first, RECORDS are kept as they come.
 * RandomRunsTest compares the class with it.
 */
final class PlainSieve {
    private static final int NONE = -1;

    private record Told(List<Integer> codes, int folder) {
        boolean fits(Mail mail) {
            for (int code : codes) {
                if (!mail.passes(code)) {
                    return false;
                }
            }
            return true;
        }
    }

    private record Named(int name, Told told, List<Integer> sorted) {
    }

    private record Undo(int letter, int lay, int belonged) {
    }

    private static final class Mail {
        int from;
        int list;
        int size;
        int words;
        int lies;
        int into;
        int belongs = NONE;
        Named by;

        boolean passes(int code) {
            if (code < 16) {
                return from == code;
            }
            if (code < 24) {
                return list != NONE && list == code - 16;
            }
            if (code < 40) {
                return Integer.toBinaryString(65536 | words).charAt(16 - (code - 24)) == '1';
            }
            return code < 1100 ? size > code - 100 : size < code - 1100;
        }
    }

    private final List<Integer> tape = new ArrayList<>();
    private final Named[] hands = new Named[10];
    private List<Named> learnt = new ArrayList<>();
    private final Map<Told, Named> ever = new HashMap<>();
    private final List<Mail> mails = new ArrayList<>();
    private final List<Undo> undos = new ArrayList<>();
    private final Map<Integer, Integer> costs = new HashMap<>();
    private int[] latest = null;

    PlainSieve() {
        costs.put(0, 3);
        costs.put(1, 1);
        for (int f = 0; f < 8; f++) {
            costs.put(10 + f, f == 7 ? 10 : 2);
        }
    }

    /** Whether there is such a LETTER and it passes a CODE. */
    boolean passes(int letter, int code) {
        return letter >= 0 && letter < mails.size() && mails.get(letter).passes(code);
    }

    private List<Named> row() {
        List<Named> all = new ArrayList<>();
        for (Named hand : hands) {
            if (hand != null) {
                all.add(hand);
            }
        }
        all.addAll(learnt);
        return all;
    }

    private static int place(List<Named> rules, Mail mail) {
        for (int k = 0; k < rules.size(); k++) {
            if (rules.get(k).told().fits(mail)) {
                return k;
            }
        }
        return NONE;
    }

    int feed(int[] numbers) {
        if (tape.size() > 80) {
            return NONE;
        }
        for (int number : numbers) {
            for (int b = 3; b >= 0; b--) {
                tape.add(number >> 8 * b & 255);
            }
        }
        return tape.size();
    }

    int end(int n) {
        if (n < 0 || n > tape.size()) {
            return NONE;
        }
        while (tape.size() > n) {
            tape.remove(n);
        }
        return n;
    }

    int hand() {
        int free = Arrays.asList(hands).indexOf(null);
        if (free < 0) {
            return NONE;
        }
        StringBuilder text = new StringBuilder();
        for (int b : tape) {
            text.append((char) b);
        }
        tape.clear();
        Object read = new PlainReader(text.toString()).read();
        if (read instanceof Integer fault) {
            return -2 - fault;
        }
        int[] told = (int[]) read;
        List<Integer> codes = new ArrayList<>();
        for (int i = 1; i < told.length; i++) {
            codes.add(told[i]);
        }
        hands[free] = new Named(free, new Told(codes, told[0]), new ArrayList<>());
        return free;
    }

    int drop(int rule) {
        if (rule < 0 || rule > 9 || hands[rule] == null) {
            return 0;
        }
        hands[rule] = null;
        return 1;
    }

    int letter(int from, int list, int size, int words) {
        if (mails.size() >= 100 || from < 0 || from > 15 || list < -1 || list > 7 || size < 0
                || size > 999 || words < 0 || words > 65535) {
            return NONE;
        }
        Mail mail = new Mail();
        mail.from = from;
        mail.list = list;
        mail.size = size;
        mail.words = words;
        int k = place(row(), mail);
        if (k != NONE) {
            mail.by = row().get(k);
            mail.into = mail.by.told().folder();
            mail.by.sorted().add(mails.size());
        }
        mail.lies = mail.into;
        mails.add(mail);
        return mails.size() - 1;
    }

    int move(int letter, int folder) {
        if (letter < 0 || letter >= mails.size() || folder < 0 || folder > 7
                || undos.size() >= 200) {
            return 0;
        }
        Mail mail = mails.get(letter);
        undos.add(new Undo(letter, mail.lies, mail.belongs));
        mail.lies = folder;
        mail.belongs = folder;
        return 1;
    }

    int undo() {
        if (undos.isEmpty()) {
            return NONE;
        }
        Undo last = undos.remove(undos.size() - 1);
        mails.get(last.letter()).lies = last.lay();
        mails.get(last.letter()).belongs = last.belonged();
        return last.letter();
    }

    int cost(int what, int coins) {
        if (!costs.containsKey(what) || coins < 0 || coins > (what < 10 ? 100 : 1000)) {
            return NONE;
        }
        return costs.put(what, coins);
    }

    /** The COST of RULES in an order, over some LETTERS. */
    private int costOf(List<Told> rules, List<Mail> pile) {
        int sum = 0;
        for (Told rule : rules) {
            sum += costs.get(0) + rule.codes().size() * costs.get(1);
        }
        for (Mail mail : pile) {
            int goes = 0;
            for (Told rule : rules) {
                if (rule.fits(mail)) {
                    goes = rule.folder();
                    break;
                }
            }
            sum += goes == mail.belongs ? 0 : costs.get(10 + goes);
        }
        return sum;
    }

    private static List<Told> candidates() {
        List<Told> all = new ArrayList<>();
        for (int first = 0; first < 40; first++) {
            for (int f = 0; f < 8; f++) {
                all.add(new Told(List.of(first), f));
            }
        }
        for (int first = 0; first < 40; first++) {
            for (int second = first + 1; second < 40; second++) {
                for (int f = 0; f < 8; f++) {
                    all.add(new Told(List.of(first, second), f));
                }
            }
        }
        return all;
    }

    private static final List<Told> CANDIDATES = candidates();

    private boolean fitsAny(Told rule, List<Mail> pile) {
        for (Mail mail : pile) {
            if (rule.fits(mail)) {
                return true;
            }
        }
        return false;
    }

    int learn() {
        List<Named> byHand = row().subList(0, row().size() - learnt.size());
        List<Mail> pile = new ArrayList<>();
        for (Mail mail : mails) {
            if (mail.belongs != NONE && place(byHand, mail) == NONE) {
                pile.add(mail);
            }
        }
        List<Told> rules = new ArrayList<>();
        int least = costOf(rules, pile);
        int without = least;
        while (rules.size() < 6) {
            Told best = null;
            for (Told more : CANDIDATES) {
                // One that fits nothing lowers no COST.
                if (more.folder() > 0 && !fitsAny(more, pile)) {
                    continue;
                }
                rules.add(more);
                int sum = costOf(rules, pile);
                rules.remove(rules.size() - 1);
                if (sum < least) {
                    least = sum;
                    best = more;
                }
            }
            if (best == null) {
                break;
            }
            rules.add(best);
        }
        return adopt(rules, least, without, pile.size());
    }

    private int adopt(List<Told> rules, int least, int without, int wentBy) {
        List<Named> now = new ArrayList<>();
        for (Told rule : rules) {
            if (!ever.containsKey(rule)) {
                ever.put(rule, new Named(100 + ever.size(), rule, new ArrayList<>()));
            }
            now.add(ever.get(rule));
        }
        TreeSet<Integer> ahead = names(learnt);
        TreeSet<Integer> behind = names(now);
        TreeSet<Integer> fresh = new TreeSet<>(behind);
        fresh.removeAll(ahead);
        ahead.removeAll(behind);
        learnt = now;
        latest = new int[] {least, without, wentBy, fresh.size(), ahead.size()};
        return now.size();
    }

    private static TreeSet<Integer> names(List<Named> rules) {
        TreeSet<Integer> all = new TreeSet<>();
        for (Named rule : rules) {
            all.add(rule.name());
        }
        return all;
    }

    int learnt(int what) {
        return latest == null || what < 0 || what > 4 ? NONE : latest[what];
    }

    private int[] recordOf(Named rule) {
        int right = 0;
        int wrong = 0;
        int last = NONE;
        for (int number : rule.sorted()) {
            int belongs = mails.get(number).belongs;
            if (belongs == rule.told().folder()) {
                right++;
            } else if (belongs != NONE) {
                wrong++;
            }
            last = number;
        }
        return new int[] {rule.sorted().size(), right, wrong, last};
    }

    int fade(int n) {
        if (n < 1 || n > 100) {
            return NONE;
        }
        int had = learnt.size();
        List<Named> kept = new ArrayList<>();
        for (Named rule : learnt) {
            boolean lately = false;
            for (int number : rule.sorted()) {
                lately |= number >= mails.size() - n;
            }
            int[] known = recordOf(rule);
            if (lately && known[2] <= known[1]) {
                kept.add(rule);
            }
        }
        learnt = kept;
        return had - kept.size();
    }

    int rule(int k, int what) {
        if (k < 0 || k >= row().size()) {
            return NONE;
        }
        Named rule = row().get(k);
        List<Integer> codes = rule.told().codes();
        if (what >= 10 && what <= 13) {
            return what - 10 < codes.size() ? codes.get(what - 10) : NONE;
        }
        int[] answers = {rule.name(), rule.told().folder(), codes.size()};
        return what >= 0 && what < 3 ? answers[what] : NONE;
    }

    int record(int k, int what) {
        if (k < 0 || k >= row().size() || what < 0 || what > 3) {
            return NONE;
        }
        return recordOf(row().get(k))[what];
    }

    int both(int k, int l) {
        if (Math.min(k, l) < 0 || Math.max(k, l) >= row().size()) {
            return NONE;
        }
        for (Mail mail : mails) {
            if (row().get(k).told().fits(mail) && row().get(l).told().fits(mail)) {
                return mails.indexOf(mail);
            }
        }
        return NONE;
    }

    int about(int letter, int what) {
        if (letter < 0 || letter >= mails.size() || what < 0 || what > 4) {
            return NONE;
        }
        Mail mail = mails.get(letter);
        int name = mail.by == null ? NONE : mail.by.name();
        return new int[] {mail.lies, name, mail.into, mail.belongs, place(row(), mail)}[what];
    }

    int heaped(int code) {
        if (code < 0 || code > 39) {
            return NONE;
        }
        int passing = 0;
        for (Mail mail : mails) {
            passing += mail.by == null && mail.belongs == NONE && mail.passes(code) ? 1 : 0;
        }
        return passing;
    }

    int heap(int n) {
        int best = 0;
        for (int code = 39; code >= 0; code--) {
            best = heaped(code) >= heaped(best) ? code : best;
        }
        return n < 1 || n > 100 || heaped(best) < n ? NONE : best;
    }

    private List<Integer> differing() {
        List<Integer> all = new ArrayList<>();
        for (int i = 0; i < mails.size(); i++) {
            int k = place(row(), mails.get(i));
            int folder = k == NONE ? 0 : row().get(k).told().folder();
            if (folder != mails.get(i).into) {
                all.add(i);
            }
        }
        return all;
    }

    int again() {
        return differing().size();
    }

    int differs(int k) {
        return k < 0 || k >= differing().size() ? NONE : differing().get(k);
    }

    int count(int what) {
        if (what >= 20 && what <= 27) {
            int lying = 0;
            for (Mail mail : mails) {
                lying += mail.lies == what - 20 ? 1 : 0;
            }
            return lying;
        }
        int[] answers = {mails.size(), row().size() - learnt.size(), learnt.size(), undos.size(),
            tape.size(), ever.size()};
        return what >= 0 && what < 6 ? answers[what] : NONE;
    }
}

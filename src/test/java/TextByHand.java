import java.util.ArrayList;
import java.util.List;
import java.util.regex.Matcher;
import java.util.regex.Pattern;

/** Another reader of TEXTS: it holds TOKENS against all forms that an ITEM may have. */
final class TextByHand {
    /** A word stands for itself, a number for a NUMBER up to that. */
    static final String[][] FORMS = {{"thing", "4"}, {"food", "4"}, {"cloth", "4"}, {"meat", "4"}, {"fur", "4"},
        {"tool", "4"}, {"doll", "4"}, {"side", "1"}, {"side", "1", "greed", "50"}, {"side", "1", "trust", "9"},
        {"side", "1", "greed", "50", "trust", "9"}, {"home", "1", "4", "99"}, {"heap", "1", "4", "99"},
        {"worth", "1", "4", "20"}, {"frost", "9"}};
    private static final Pattern TOKEN = Pattern.compile("[a-z]+|[0-9]+|;");
    private static final String[] KINDS = {"thing", "food", "cloth", "meat", "fur", "tool", "doll"};
    private static final String[] STOCKS = {"home", "heap", "worth"};

    /** Whom the ITEMS are told to, by the calls of the face that would do the same. */
    interface Told {
        int kind(int thing, int v);

        int change(int side, int thing, int what, int v);

        int side(int side, int what, int v);

        int frost(int v);
    }

    private final List<String> tokens = new ArrayList<>();
    private final List<Integer> begins = new ArrayList<>();
    private final List<List<String>> items = new ArrayList<>();

    TextByHand(String text) {
        int at = 0;
        while (at < text.length()) {
            Matcher m = TOKEN.matcher(text).region(at, text.length());
            if (text.charAt(at) == ' ') {
                at++;
            } else {
                boolean begun = m.lookingAt();
                tokens.add(begun ? m.group() : "?");
                begins.add(at);
                at = begun ? m.end() : at + 1;
            }
        }
        tokens.add("");
        begins.add(text.length());
    }

    /** A TEXT of one to six ITEMS; it may be too long for THE TAPE. */
    static String random(Dice dice) {
        StringBuilder text = new StringBuilder();
        int items = 1 + dice.next(6);
        for (int i = 0; i < items; i++) {
            text.append(i == 0 ? "" : ";");
            for (String part : FORMS[dice.next(FORMS.length)]) {
                boolean number = Character.isDigit(part.charAt(0));
                text.append(" ".repeat(dice.next(3) == 0 ? 2 : 1));
                text.append(number ? String.valueOf(dice.next(Integer.parseInt(part) + 1)) : part);
            }
        }
        return text.toString();
    }

    /** How many ITEMS, or -1 less the FAULT. */
    int answer() {
        List<String> item = new ArrayList<>();
        for (int i = 0; i < tokens.size(); i++) {
            String token = tokens.get(i);
            boolean ends = token.isEmpty() || token.equals(";");
            if (ends ? !isWhole(item) : !mayGoOn(item, token)) {
                return -1 - begins.get(i);
            }
            if (ends) {
                items.add(item);
                item = new ArrayList<>();
            } else {
                item.add(token);
            }
        }
        return items.size();
    }

    private static boolean isWhole(List<String> item) {
        for (String[] form : FORMS) {
            if (form.length == item.size() && begins(form, item)) {
                return true;
            }
        }
        return false;
    }

    private static boolean mayGoOn(List<String> item, String token) {
        List<String> longer = new ArrayList<>(item);
        longer.add(token);
        for (String[] form : FORMS) {
            if (form.length >= longer.size() && begins(form, longer)) {
                return true;
            }
        }
        return false;
    }

    private static boolean begins(String[] form, List<String> item) {
        for (int i = 0; i < item.size(); i++) {
            boolean number = Character.isDigit(form[i].charAt(0));
            if (number ? !isUpTo(item.get(i), form[i]) : !item.get(i).equals(form[i])) {
                return false;
            }
        }
        return true;
    }

    private static boolean isUpTo(String token, String most) {
        return token.matches("[0-9]+")
            && new java.math.BigInteger(token).compareTo(new java.math.BigInteger(most)) <= 0;
    }

    void tellTo(Told x) {
        for (List<String> item : items) {
            String word = item.get(0);
            int[] n = new int[6];
            for (int i = 1; i < item.size(); i++) {
                n[i] = item.get(i).matches("[0-9]+") ? Integer.parseInt(item.get(i).replaceFirst("^0+(?=.)", "")) : 0;
            }
            for (int kind = 0; kind < KINDS.length; kind++) {
                if (word.equals(KINDS[kind])) {
                    x.kind(n[1], kind);
                }
            }
            for (int what = 0; what < STOCKS.length; what++) {
                if (word.equals(STOCKS[what])) {
                    x.change(n[1], n[2], what, n[3]);
                }
            }
            if (word.equals("frost")) {
                x.frost(n[1]);
            }
            for (int i = 2; i < item.size() && word.equals("side"); i += 2) {
                x.side(n[1], item.get(i).equals("greed") ? 0 : 1, n[i + 1]);
            }
        }
    }
}

import java.util.ArrayList;
import java.util.List;

/** A MARKUP once more, as a machine that sees each byte once and never looks ahead. */
final class MarkupOracle {
    final List<String> ids = new ArrayList<>();
    final List<String> tos = new ArrayList<>();
    int fault = -1;

    private String state = "prolog";
    // What of a fixed text is still to come, and the state behind it.
    private String text = "";
    private String behindText;
    private String behindComment;
    private int dashes;
    private int begin;
    private String word = "";
    private StringBuilder value;
    private String attribute;
    private int quote;
    private String id;
    private String to;

    MarkupOracle(byte[] row) {
        for (int k = 0; k <= row.length && fault < 0; k++) {
            int b = k < row.length ? row[k] & 255 : -1;
            // A state may hand the byte on to another one.
            boolean taken = false;
            for (int hands = 0; hands < 4 && !taken && fault < 0; hands++) {
                taken = step(b, k);
            }
            if (b < 0 && fault < 0 && !state.equals("epilog")) {
                fault = k;
            }
        }
        if (fault >= 0) {
            ids.clear();
            tos.clear();
        }
    }

    private static boolean space(int b) {
        return b == 32 || b == 9 || b == 10 || b == 13;
    }

    private static boolean letter(int b) {
        return b >= 'a' && b <= 'z';
    }

    private boolean bad(int place) {
        fault = place;
        return true;
    }

    private boolean go(String next) {
        state = next;
        return true;
    }

    private boolean expect(String fixed, String next) {
        text = fixed;
        behindText = next;
        return go("text");
    }

    /** Whether the byte was taken (or is the fault). */
    private boolean step(int b, int k) {
        switch (state) {
            case "text":
                if (b != text.charAt(0)) {
                    return bad(k);
                }
                text = text.substring(1);
                return go(text.isEmpty() ? behindText : "text");
            case "prolog":
                return space(b) || (b == '<' ? go("prolog<") : bad(k));
            case "prolog<":
                return b == '!' ? comment("prolog") : b == 'r' ? expect("els", "open") : bad(k);
            case "comment":
                if (b < 0 || dashes == 2 && b != '>') {
                    return bad(k);
                }
                if (dashes == 2) {
                    return go(behindComment);
                }
                dashes = b == '-' ? dashes + 1 : 0;
                return true;
            case "open":
                return space(b) || (b == '/' ? expect(">", "epilog") : b == '>' ? go("content") : bad(k));
            case "content":
                return space(b) || (b == '<' ? go("content<") : bad(k));
            case "content<":
                return b == '!' ? comment("content") : b == '/' ? expect("rels", "close") : b == 'r' ? element() : bad(k);
            case "close":
                return space(b) || (b == '>' ? go("epilog") : bad(k));
            case "epilog":
                return b < 0 || space(b) || (b == '<' ? go("epilog<") : bad(k));
            case "epilog<":
                return b == '!' ? comment("epilog") : bad(k);
            default:
                return stepInElement(b, k);
        }
    }

    private boolean comment(String behind) {
        behindComment = behind;
        dashes = 0;
        return expect("--", "comment");
    }

    private boolean element() {
        id = null;
        to = null;
        return expect("el", "rel");
    }

    private boolean stepInElement(int b, int k) {
        switch (state) {
            case "rel":
            case "rel ":
                if (space(b)) {
                    return go("rel ");
                }
                if (b == '/' || b == '>') {
                    return id == null || to == null ? bad(k) : endOfElement(b);
                }
                if (state.equals("rel")) {
                    return bad(k);
                }
                begin = k;
                word = "";
                state = "attribute";
                return false;
            case "attribute":
                if (letter(b)) {
                    word += (char) b;
                    return true;
                }
                attribute = word;
                if (!(word.equals("id") && id == null || word.equals("to") && to == null)) {
                    return bad(begin);
                }
                return b == '=' ? go("quote") : bad(k);
            case "quote":
                quote = b;
                value = new StringBuilder();
                return b == 34 || b == 39 ? go("value") : bad(k);
            case "inside":
                return space(b) || (b == '<' ? go("inside<") : bad(k));
            case "inside<":
                return b == '!' ? comment("inside") : b == '/' ? expect("rel", "closing") : bad(k);
            case "closing":
                return space(b) || (b == '>' ? go("content") : bad(k));
            default:
                return stepInValue(b, k);
        }
    }

    private boolean endOfElement(int b) {
        ids.add(id);
        tos.add(to);
        return b == '/' ? expect(">", "content") : go("inside");
    }

    private boolean stepInValue(int b, int k) {
        switch (state) {
            case "value":
                if (b == quote) {
                    return closed(k);
                }
                if (b < 32 || b > 126 || b == '<') {
                    return bad(k);
                }
                if (b != '&') {
                    value.append((char) b);
                }
                return go(b == '&' ? "and" : "value");
            case "and":
                begin = k;
                word = "";
                state = b == '#' ? "digits" : "named";
                begin += b == '#' ? 1 : 0;
                return b == '#';
            case "named":
                if (letter(b)) {
                    word += (char) b;
                    return true;
                }
                int which = java.util.Arrays.asList("amp", "lt", "gt", "quot", "apos").indexOf(word);
                if (which < 0) {
                    return bad(begin);
                }
                value.append("&<>\"'".charAt(which));
                return b == ';' ? go("value") : bad(k);
            default:
                if (b >= '0' && b <= '9' && word.length() < 3) {
                    word += (char) b;
                    return true;
                }
                if (word.isEmpty() || word.startsWith("0") || Integer.parseInt(word) < 32 || Integer.parseInt(word) > 126) {
                    return bad(begin);
                }
                value.append((char) Integer.parseInt(word));
                return b == ';' ? go("value") : bad(k);
        }
    }

    private boolean closed(int k) {
        String whole = value.toString();
        if (attribute.equals("id")) {
            id = whole;
            return whole.length() >= 1 && whole.length() <= 8 ? go("rel") : bad(k);
        }
        to = whole;
        return FileOracle.isName(whole) ? go("rel") : bad(k);
    }
}

import java.util.ArrayList;
import java.util.HashSet;
import java.util.List;
import java.util.Set;

/**
 * The grammar of TEXT as rules, read by trying all ways at once: a way is the list of what is still to come.
 * The fault is the first byte behind which no way is left. Apart from the program's reader by design.
 */
final class Grammar {
    private Grammar() { }

    /** What may still come, the next first: a sign as itself, a rule by its name and depth. */
    private static List<String> way(String... items) { return List.of(items); }

    static int fault(String text) {
        Set<List<String>> ways = new HashSet<>();
        ways.add(way("text"));
        for (int i = 0; i < text.length(); i++) {
            Set<List<String>> after = new HashSet<>();
            for (List<String> w : ways) step(w, text.charAt(i), after);
            if (after.isEmpty()) return i;
            ways = after;
        }
        for (List<String> w : ways) if (canEnd(w)) return -1;
        return text.length();
    }

    private static boolean canEnd(List<String> way) {
        if (way.isEmpty()) return true;
        for (List<String> rule : rules(way.get(0))) {
            List<String> next = new ArrayList<>(rule);
            next.addAll(way.subList(1, way.size()));
            if (canEnd(next)) return true;
        }
        return false;
    }

    private static void step(List<String> way, char sign, Set<List<String>> after) {
        if (sign == ' ') {
            // A blank ends a number; else it changes nothing.
            List<String> rest = way;
            while (!rest.isEmpty() && rest.get(0).startsWith("digits")) rest = rest.subList(1, rest.size());
            after.add(rest);
            return;
        }
        if (way.isEmpty()) return;
        String head = way.get(0);
        List<String> tail = way.subList(1, way.size());
        if (head.length() == 1) {
            if (head.charAt(0) == sign) after.add(tail);
            return;
        }
        for (List<String> rule : rules(head)) {
            List<String> next = new ArrayList<>(rule);
            next.addAll(tail);
            step(next, sign, after);
        }
    }

    /** The ways to write a rule (a sign has none: it is written as it is). */
    private static List<List<String>> rules(String head) {
        if (head.length() == 1) return List.of();
        String name = head.replaceAll("[0-9]+$", "");
        int d = name.equals(head) ? 0 : Integer.parseInt(head.substring(name.length()));
        List<List<String>> r = new ArrayList<>();
        switch (name) {
            case "text": r.add(way("clause", "texts")); break;
            case "texts": r.add(way()); r.add(way(";", "clause", "texts")); break;
            case "clause": for (char l : "rdsgz".toCharArray()) r.add(way("" + l, ":", "body")); break;
            case "body": r.add(way("sum0")); r.add(way("condition0", "?", "sum0")); break;
            case "condition": r.add(way("part" + d, "conditions" + d)); break;
            case "conditions": r.add(way()); r.add(way("|", "part" + d, "conditions" + d)); break;
            case "part": r.add(way("unit" + d, "parts" + d)); break;
            case "parts": r.add(way()); r.add(way("&", "unit" + d, "parts" + d)); break;
            case "unit":
                if (d < 8) {
                    r.add(way("!", "unit" + (d + 1)));
                    r.add(way("(", "condition" + (d + 1), ")"));
                }
                for (char l : "=<>".toCharArray()) r.add(way("sum" + d, "" + l, "sum" + d));
                break;
            case "sum": r.add(way("term" + d, "sums" + d)); break;
            case "sums":
                r.add(way());
                r.add(way("+", "term" + d, "sums" + d));
                r.add(way("-", "term" + d, "sums" + d));
                break;
            case "term": r.add(way("atom" + d, "terms" + d)); break;
            case "terms":
                r.add(way());
                r.add(way("*", "atom" + d, "terms" + d));
                r.add(way("/", "atom" + d, "terms" + d));
                break;
            case "atom":
                for (char l : "anbochpy".toCharArray()) r.add(way("" + l));
                for (char l : "0123456789".toCharArray()) r.add(way("" + l, "digits4"));
                if (d < 8) r.add(way("[", "sum" + (d + 1), "]"));
                break;
            case "digits":
                r.add(way());
                if (d > 0) for (char l : "0123456789".toCharArray()) r.add(way("" + l, "digits" + (d - 1)));
                break;
            default: throw new AssertionError(head);
        }
        return r;
    }
}

/** Texts as the numbers that feed takes. */
final class Tapes {
    private Tapes() { }

    /** Five numbers; what the text lacks are bytes of 0. */
    static int[] numbers(String twenty) {
        int[] five = new int[5];
        for (int i = 0; i < twenty.length(); i++) five[i / 4] |= (twenty.charAt(i) & 255) << (24 - 8 * (i % 4));
        return five;
    }

    /** The tape is the text then; the last answer of feed. */
    static int feed(MadeWhere x, String text) {
        x.end(0);
        int answer = 0;
        for (int at = 0; at < text.length(); at += 20) {
            int[] n = numbers(text.substring(at, Math.min(text.length(), at + 20)));
            answer = x.feed(n[0], n[1], n[2], n[3], n[4]);
        }
        return answer;
    }
}

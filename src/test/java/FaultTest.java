import java.util.Random;

/** Faults of many texts, against the grammar read by trying all ways. */
public final class FaultTest {
    public static void main(String[] args) {
        int wrong = 0;
        int sound = 0;
        for (int seed = 0; seed < 60000; seed++) {
            Random random = new Random(seed);
            Texts texts = new Texts(random, seed % 2 == 0);
            int clauses = 1 + random.nextInt(3);
            String text = seed % 3 == 0 ? texts.sound(clauses) : texts.broken(clauses);
            if (text.length() > 200) text = text.substring(0, 200);
            MadeWhere x = new MadeWhere();
            Tapes.feed(x, text);
            int due = Grammar.fault(text);
            if (due == -1) sound++;
            if (x.fault() != due) {
                wrong++;
                System.out.println("fault of <" + text + "> answered " + x.fault() + ", due is " + due);
            }
        }
        if (sound < 20000 || sound > 50000) {
            wrong++;
            System.out.println("only " + sound + " texts were sound");
        }
        System.out.println(wrong == 0 ? "all faults are as due" : wrong + " faults are not as due");
        if (wrong != 0) System.exit(1);
    }
}

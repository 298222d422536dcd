import java.util.List;
import java.util.function.Supplier;

/** What the project's tests share: answers that are due by the document's words. */
final class Due {
    private final Doc doc = new Doc();
    private String words = "";
    private int wrong = 0;
    private int looked = 0;

    /** What is looked at from here on is due by these words of the terms. */
    void of(String quoted) {
        of(Doc.TERMS, quoted);
    }

    /** What is looked at from here on is due by these words of a promise. */
    void of(int promise, String quoted) {
        words = (promise == Doc.TERMS ? "" : "promise " + promise + ": ") + quoted;
        yes("that the document says so", doc.section(promise).contains(quoted));
    }

    void is(String call, long got, long want) {
        looked++;
        if (got != want) {
            wrong++;
            System.out.println("[" + words + "] " + call + " answered " + got + ", due is " + want);
        }
    }

    void yes(String call, boolean got) {
        is(call, got ? 1 : 0, 1);
    }

    void no(String call, boolean got) {
        is(call, got ? 1 : 0, 0);
    }

    /** A call with its answer, told by name. */
    void call(CountingHorses x, long want, String name, Object... args) {
        is(Calls.told(name, args), Calls.made(x, name, args), want);
    }

    /** A call that must change nothing: what can be seen stays as on a mail that it wasn't made on. */
    void changesNothing(Supplier<CountingHorses> mail, long want, String name, Object... args) {
        CountingHorses x = mail.get();
        call(x, want, name, args);
        alike("behind " + Calls.told(name, args), x, mail.get());
    }

    /** Two mails on which all that can be seen is alike. */
    void alike(String what, CountingHorses x, CountingHorses twin) {
        List<String> seen = Mails.seenOf(x);
        List<String> due = Mails.seenOf(twin);
        looked++;
        if (!seen.equals(due)) {
            wrong++;
            for (int i = 0; i < Math.min(seen.size(), due.size()); i++) {
                if (!seen.get(i).equals(due.get(i))) {
                    System.out.println("[" + words + "] " + what + ": " + seen.get(i)
                        + ", due is " + due.get(i));
                    return;
                }
            }
        }
    }

    /** A text must be read without a fault: its number. */
    void stands(CountingHorses x, int number, String text) {
        is("text " + text, Mails.read(x, text), number);
        is("fault of " + text, x.fault(0), 0);
        is("place of no fault of " + text, x.fault(1), CountingHorses.NONE);
    }

    /** A text must be read without a fault on a mail of its own. */
    void stands(String text) {
        stands(new CountingHorses(), 0, text);
    }

    /** A text must have a fault at a place. */
    void faulty(String text, int fault, int place) {
        CountingHorses x = new CountingHorses();
        is("text " + text, Mails.read(x, text), CountingHorses.NONE);
        is("fault of " + text, x.fault(0), fault);
        is("place of the fault of " + text, x.fault(1), place);
        is("texts behind " + text, x.about(6), 0);
    }

    void close(String name) {
        System.out.println(name + ": " + looked + " looked at, " + wrong + " wrong");
        if (wrong != 0) {
            System.exit(1);
        }
    }
}

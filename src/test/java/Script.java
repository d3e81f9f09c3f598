import java.io.IOException;
import java.lang.reflect.Method;
import java.nio.file.Files;
import java.nio.file.Path;

/**
 * Calls written as text, with the answer that is due: what differs is printed and counted. Every
 * call goes to a PlainDesk too, so that what is due here and the second model hold one another.
 */
final class Script {
    /** Chamber 0 (feed 10) - C 2 - chamber 1 - C 4 - chamber 2 (feed 5), a pump of 5 at chamber 2. */
    static final String[] THREE_IN_A_ROW = {
        "chamber(10, 0)", "chamber(0, 640)", "chamber(5, 0)", "tube(0, 1, 6, 3, 0)", "tube(1, 2, 4, 0, 0)", "pump(2, 5)"};

    /** 12 come in; with 2 the pressure is 6, with 4 it is 3, the bound is 5: no stage agrees. */
    static final String[] HUNTING = {"chamber(12, 0)", "pump(0, 4)", "curve(0, 4, 9)", "curve(0, 3, 5)", "curve(0, 0, 2)"};

    /** Chambers 0 and 3 with 1 and 2 between them, which a tube joins; each C is 1. */
    static final String[] BRIDGE = {
        "chamber(0, 0)", "chamber(0, 0)", "chamber(0, 0)", "chamber(0, 0)", "tube(0, 1, 1, 0, 0)", "tube(0, 2, 1, 0, 0)",
        "tube(1, 3, 1, 0, 0)", "tube(2, 3, 1, 0, 0)", "tube(1, 2, 1, 0, 0)"};

    private VacuumDesk desk = new VacuumDesk();
    private PlainDesk model = new PlainDesk();
    private String label = "";
    private String document;
    int sentences;
    int wrong;
    int asked;

    void fresh(int promise, String... setup) {
        begin("promise " + promise, setup);
    }

    /** A test of one sentence: its words must stand in the document, but for where lines end. */
    void sentence(String place, String words, String... setup) {
        sentences++;
        begin(place + ", \"" + words + "\"", setup);
        if (!documentText().contains(words)) {
            wrong++;
            System.out.println(label + ": the document does not say so");
        }
    }

    /** A new desk for the same sentence. */
    void again(String... setup) {
        begin(label, setup);
    }

    private void begin(String label, String... setup) {
        this.label = label;
        desk = new VacuumDesk();
        model = new PlainDesk();
        calls(setup);
    }

    private String documentText() {
        if (document == null) {
            try {
                document = Files.readString(Path.of("../shared/DOC.md")).replaceAll("\\s+", " ");
            } catch (IOException e) {
                throw new IllegalStateException(e);
            }
        }
        return document;
    }

    /** A call, written as text, of a VacuumDesk or a PlainDesk. */
    static long invoke(Object desk, String text) {
        int open = text.indexOf('(');
        String inside = text.substring(open + 1, text.length() - 1).trim();
        String[] parts = inside.isEmpty() ? new String[0] : inside.split(",");
        Object[] args = new Object[parts.length];
        Class<?>[] types = new Class<?>[parts.length];
        for (int i = 0; i < parts.length; i++) {
            args[i] = Integer.parseInt(parts[i].trim());
            types[i] = int.class;
        }
        try {
            Method method = desk.getClass().getMethod(text.substring(0, open), types);
            return ((Number) method.invoke(desk, args)).longValue();
        } catch (ReflectiveOperationException e) {
            throw new IllegalStateException(text, e);
        }
    }

    /** A call whose answer is asked of both desks, but not told beforehand. */
    long call(String text) {
        long got = invoke(desk, text);
        long plain = invoke(model, text);
        if (got != plain) say(text + " answered " + got + ", the model " + plain);
        return got;
    }

    void say(String fault) {
        wrong++;
        System.out.println(label + ": " + fault);
    }

    void calls(String... texts) {
        for (String text : texts) call(text);
    }

    void repeat(int times, String text) {
        for (int i = 0; i < times; i++) call(text);
    }

    void due(String text, long want) {
        long got = call(text);
        asked++;
        if (got != want) say(text + " answered " + got + ", due is " + want);
    }

    /** Dues written as "call = answer". */
    void dues(String... rows) {
        for (String row : rows) {
            int at = row.lastIndexOf('=');
            due(row.substring(0, at).trim(), Long.parseLong(row.substring(at + 1).trim()));
        }
    }

    private static String with(String call, int value) {
        return call.replace("#", Integer.toString(value));
    }

    private static int[] beyond(int least, int greatest) {
        return new int[] {Integer.MIN_VALUE, least - 1, greatest + 1, Integer.MAX_VALUE};
    }

    /** For # the least and the greatest are taken (and undone), all beyond is REFUSED by 'by'. */
    void taken(String call, int least, int greatest, int by) {
        for (int value : new int[] {least, greatest}) {
            call(with(call, value));
            due("status()", 0);
            call("undo()");
        }
        for (int value : beyond(least, greatest)) {
            due(with(call, value), by);
            due("status()", by);
        }
    }

    /** For # each from the least to the greatest has an answer other than 'none', all beyond has not. */
    void answered(String call, int least, int greatest, long none) {
        for (int value = least; value <= greatest; value++) {
            asked++;
            if (call(with(call, value)) == none) say(with(call, value) + " answered " + none);
        }
        notBeyond(call, least, greatest, none);
    }

    void notBeyond(String call, int least, int greatest, long none) {
        for (int value : beyond(least, greatest)) due(with(call, value), none);
    }

    /** Tells what was found, and ends with exit code 1 if anything was wrong. */
    void close(String name) {
        String of = sentences > 0 ? " for " + sentences + " sentences" : "";
        System.out.println(name + ": " + asked + " answers asked" + of + ", " + wrong + " wrong");
        if (wrong != 0) System.exit(1);
    }
}

import java.lang.reflect.Method;

/** Calls written as text, with the answer that is due: what differs is printed and counted. */
final class Script {
    private VacuumDesk desk = new VacuumDesk();
    private int promise;
    int wrong;
    int asked;

    void fresh(int promise) {
        this.promise = promise;
        desk = new VacuumDesk();
    }

    /** A call whose answer is not looked at. */
    long call(String text) {
        int open = text.indexOf('(');
        String inside = text.substring(open + 1, text.length() - 1).trim();
        String[] parts = inside.isEmpty() ? new String[0] : inside.split(",");
        Object[] args = new Object[parts.length];
        Class<?>[] types = new Class<?>[parts.length];
        for (int i = 0; i < parts.length; i++) {
            args[i] = Integer.parseInt(parts[i].trim());
            types[i] = int.class;
        }
        try {
            Method method = VacuumDesk.class.getMethod(text.substring(0, open), types);
            return ((Number) method.invoke(desk, args)).longValue();
        } catch (ReflectiveOperationException e) {
            throw new IllegalStateException(text, e);
        }
    }

    void calls(String... texts) {
        for (String text : texts) call(text);
    }

    void due(String text, long want) {
        long got = call(text);
        asked++;
        if (got != want) {
            wrong++;
            System.out.println("promise " + promise + ": " + text + " answered " + got + ", due is " + want);
        }
    }

    /** Dues written as "call = answer". */
    void dues(String... rows) {
        for (String row : rows) {
            int at = row.lastIndexOf('=');
            due(row.substring(0, at).trim(), Long.parseLong(row.substring(at + 1).trim()));
        }
    }
}

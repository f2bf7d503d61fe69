import java.util.regex.Matcher;
import java.util.regex.Pattern;

/**
 * Calls on one hall, written as the document and the issues write them, with ';' between them:
 * "row(6, 3) = 0; keep(0, 0); put(0, 6, 3, 1) = BEYOND; 2 x weight(0) = CAST".
 * A call without an answer only prepares what is asked, and must not be refused.
 */
final class Run {
    private static final Pattern CALL = Pattern.compile("(?:(\\d+) x )?(\\w+)\\((.*)\\)(?: = (\\S+))?");

    private static final int MOST_CALLS = 512;

    private final DrawerHall hall = new DrawerHall();
    private final String name;
    private final Due due;
    private int asked;

    Run(String name, Due due) {
        this.name = name;
        this.due = due;
    }

    void calls(String text) {
        for (String call : text.split(";")) {
            if (!call.isBlank()) {
                call(call.trim());
            }
        }
    }

    private void call(String text) {
        Matcher call = CALL.matcher(text);
        if (!call.matches()) {
            due.same(name + ": " + text, "no call", "a call");
            return;
        }
        int times = call.group(1) == null ? 1 : Integer.parseInt(call.group(1));
        long[] numbers = numbers(call.group(3));
        for (int i = 0; i < times; i++) {
            ask(text, call.group(2), numbers, call.group(4));
        }
    }

    private void ask(String text, String method, long[] numbers, String want) {
        String got = answer(method, numbers);
        if (want == null) {
            due.same(name + ": " + text, isRefusal(got) ? "refused by " + got : "not refused", "not refused");
        } else {
            due.same(name + ": " + text, got, want.startsWith("throws.") ? want : Long.toString(number(want)));
        }
    }

    private static boolean isRefusal(String got) {
        return got.startsWith("throws.") || got.startsWith("-") && !got.equals("-5");
    }

    private static long[] numbers(String text) {
        if (text.isBlank()) {
            return new long[0];
        }
        String[] parts = text.split(",");
        long[] numbers = new long[parts.length];
        for (int i = 0; i < parts.length; i++) {
            numbers[i] = number(parts[i].trim());
        }
        return numbers;
    }

    private static long number(String text) {
        switch (text) {
            case "UNKNOWN": return -1;
            case "OUTSIDE": return -2;
            case "FULL": return -4;
            case "NONE": return -5;
            case "NOTHING": return -21;
            case "BEYOND": return -22;
            case "CAST": return -23;
            case "STORE": return -24;
            case "SIZE": return -25;
            case "LEAST": return Integer.MIN_VALUE;
            case "GREATEST": return Integer.MAX_VALUE;
            default: return Long.parseLong(text);
        }
    }

    private String answer(String method, long[] numbers) {
        try {
            return Long.toString(asked(method, numbers));
        } catch (ClassCastException | NullPointerException | ArrayIndexOutOfBoundsException e) {
            return "throws." + e.getClass().getSimpleName();
        }
    }

    /** Beyond 512 calls nothing is promised: a test that goes there is wrong itself. */
    private long asked(String method, long... numbers) {
        if (++asked > MOST_CALLS) {
            throw new IllegalStateException(name + ": more than " + MOST_CALLS + " calls");
        }
        int[] n = new int[5];
        for (int i = 0; i < numbers.length; i++) {
            n[i] = (int) numbers[i];
        }
        switch (method + "/" + numbers.length) {
            case "thing/2": return hall.thing(n[0], n[1]);
            case "row/2": return hall.row(n[0], n[1]);
            case "sheet/3": return hall.sheet(n[0], n[1], n[2]);
            case "keep/2": return hall.keep(n[0], n[1]);
            case "held/1": return hall.held(n[0]);
            case "is/2": return hall.is(n[0], n[1]);
            case "label/1": return hall.label(n[0]);
            case "weight/1": return hall.weight(n[0]);
            case "light/1": return hall.light(n[0]);
            case "size/2": return hall.size(n[0], n[1]);
            case "put/4": return hall.put(n[0], n[1], n[2], numbers[3]);
            case "number/3": return hall.number(n[0], n[1], n[2]);
            case "lay/4": return hall.lay(n[0], n[1], n[2], n[3]);
            case "piece/3": return hall.piece(n[0], n[1], n[2]);
            case "pick/4": return hall.pick(n[0], n[1], n[2], n[3]);
            case "move/5": return hall.move(n[0], n[1], n[2], n[3], n[4]);
            case "shine/2": return hall.shine(n[0], n[1]);
            case "many/1": return hall.many(n[0]);
            case "count/1": return hall.count(n[0]);
            case "clear/0": return hall.clear();
            default: throw new IllegalStateException("no such call: " + method + "/" + numbers.length);
        }
    }

    /** How often each finding was answered. */
    String counted() {
        StringBuilder text = new StringBuilder();
        for (int what = 2; what <= 6; what++) {
            text.append(' ').append(asked("count", what));
        }
        return text.toString();
    }

    /** All that can be seen of drawers and things, by calls that meet no finding; drawer 0 is used for it. */
    String seen() {
        StringBuilder text = new StringBuilder();
        for (int drawer = 0; drawer < 16; drawer++) {
            text.append(' ').append(asked("held", drawer));
        }
        long things = asked("count", 0);
        for (long thing = 0; thing < things; thing++) {
            asked("keep", 0, thing);
            text.append(" / ").append(asked("label", 0));
            seeThing(text, (int) asked("label", 0));
        }
        return text.toString();
    }

    private void seeThing(StringBuilder text, int kind) {
        if (kind < 5) {
            text.append(' ').append(asked("weight", 0));
        } else if (kind == 20) {
            text.append(' ').append(asked("light", 0));
        } else {
            long places = asked("size", 0, kind);
            for (int i = 0; i < places; i++) {
                text.append(' ').append(asked(kind < 9 ? "number" : "piece", 0, kind, i));
            }
        }
    }
}

import java.lang.reflect.Array;
import java.util.ArrayList;
import java.util.List;

/**
 * The findings are those of the machine: long runs of calls are put to the hall and to a model that holds real Java
 * objects and arrays, and answers by what the machine itself does with them. The runs are the same each time.
 */
public final class MachineTest {
    private static final int RUNS = 9000;
    /** Nothing is promised of a hall behind its 512th call: the runs end there, the last calls look at all. */
    private static final int MOST_CALLS = 512;
    private static final int CALLS = 400;
    private static final int CALLS_AHEAD_OF_CLEAR = 150;
    private static final int CALLS_FOR_A_THING = 8;

    interface Shining {
        int light();
    }

    static class Stone {
        final int weight;

        Stone(int weight) {
            this.weight = weight;
        }
    }

    static class Gem extends Stone implements Shining {
        Gem(int weight) {
            super(weight);
        }

        @Override
        public int light() {
            return weight % 10 + 1;
        }
    }

    static final class Pearl extends Gem {
        Pearl(int weight) {
            super(weight);
        }

        @Override
        public int light() {
            return super.light() + 5;
        }
    }

    static final class Fossil extends Stone {
        Fossil(int weight) {
            super(weight);
        }
    }

    static final class Lamp implements Shining {
        final int weight;

        Lamp(int weight) {
            this.weight = weight;
        }

        @Override
        public int light() {
            return 2 * weight;
        }
    }

    /** Class number f is that of form f; 20 is that of what shines. */
    private static final Class<?>[] KINDS = {
        null, Stone.class, Gem.class, Pearl.class, Fossil.class, Lamp.class, int[].class, long[].class, byte[].class,
        int[][].class, long[][].class, Stone[].class, Gem[].class, Pearl[].class, Fossil[].class, Lamp[].class,
        Shining[].class, Stone[][].class, Gem[][].class, Shining[][].class, Shining.class
    };
    private static final int[] LABELS = {3, 2, 4, 1, 20, 8, 7, 6, 10, 9, 13, 12, 15, 16, 14, 11, 18, 19, 17};

    /** What the machine has, as the document asks it of the hall. */
    private static final class Model {
        final List<Object> things = new ArrayList<>();
        Object[] drawers = new Object[16];
        int[] findings = new int[6];

        boolean unknown(int drawer) {
            return drawer < 0 || drawer > 15;
        }

        int numberOf(Object thing) {
            for (int i = 0; i < things.size(); i++) {
                if (things.get(i) == thing) {
                    return i;
                }
            }
            return -5;
        }

        int finding(RuntimeException e) {
            int finding = e instanceof NullPointerException ? 1
                : e instanceof IndexOutOfBoundsException ? 2
                : e instanceof ClassCastException ? 3
                : e instanceof ArrayStoreException ? 4
                : e instanceof NegativeArraySizeException ? 5 : 6;
            findings[finding]++;
            return -20 - finding;
        }

        int add(Object thing) {
            things.add(thing);
            return things.size() - 1;
        }

        int thing(int form, int weight) {
            if (form < 1 || form > 5 || weight < 0 || weight > 999) {
                return -2;
            }
            if (things.size() >= 120) {
                return -4;
            }
            switch (form) {
                case 1: return add(new Stone(weight));
                case 2: return add(new Gem(weight));
                case 3: return add(new Pearl(weight));
                case 4: return add(new Fossil(weight));
                default: return add(new Lamp(weight));
            }
        }

        int row(int form, int n) {
            if (form < 6 || form > 16 || form == 9 || form == 10 || n > 12) {
                return -2;
            }
            if (things.size() >= 120) {
                return -4;
            }
            try {
                return add(Array.newInstance(KINDS[form].getComponentType(), n));
            } catch (NegativeArraySizeException e) {
                return finding(e);
            }
        }

        int sheet(int form, int n, int m) {
            if (form != 9 && form != 10 && (form < 17 || form > 19) || n > 6 || m > 6 && m != 9) {
                return -2;
            }
            if (things.size() + 1 + (m == 9 ? 0 : n) > 120) {
                return -4;
            }
            try {
                Class<?> rowClass = KINDS[form].getComponentType();
                if (m == 9) {
                    return add(Array.newInstance(rowClass, n));
                }
                Object[] made = (Object[]) Array.newInstance(rowClass.getComponentType(), n, m);
                int number = add(made);
                for (Object row : made) {
                    add(row);
                }
                return number;
            } catch (NegativeArraySizeException e) {
                return finding(e);
            }
        }

        int keep(int drawer, int thing) {
            if (unknown(drawer) || thing != -5 && (thing < 0 || thing >= things.size())) {
                return -1;
            }
            int before = numberOf(drawers[drawer]);
            drawers[drawer] = thing == -5 ? null : things.get(thing);
            return before;
        }

        int held(int drawer) {
            return unknown(drawer) ? -1 : numberOf(drawers[drawer]);
        }

        int is(int drawer, int kind) {
            if (unknown(drawer)) {
                return -1;
            }
            if (kind < 1 || kind > 20) {
                return -2;
            }
            return KINDS[kind].isInstance(drawers[drawer]) ? 1 : 0;
        }

        int label(int drawer) {
            if (unknown(drawer)) {
                return -1;
            }
            for (int kind : LABELS) {
                if (KINDS[kind].isInstance(drawers[drawer])) {
                    return kind;
                }
            }
            return 0;
        }

        int weight(int drawer) {
            if (unknown(drawer)) {
                return -1;
            }
            try {
                return ((Stone) drawers[drawer]).weight;
            } catch (RuntimeException e) {
                return finding(e);
            }
        }

        int light(int drawer) {
            if (unknown(drawer)) {
                return -1;
            }
            try {
                return ((Shining) drawers[drawer]).light();
            } catch (RuntimeException e) {
                return finding(e);
            }
        }

        int size(int drawer, int kind) {
            if (unknown(drawer)) {
                return -1;
            }
            if (kind < 6 || kind > 19) {
                return -2;
            }
            try {
                Object row = KINDS[kind].cast(drawers[drawer]);
                return Array.getLength(row);
            } catch (RuntimeException e) {
                return finding(e);
            }
        }

        int put(int drawer, int kind, int i, long v) {
            if (unknown(drawer)) {
                return -1;
            }
            try {
                switch (kind) {
                    case 6: ((int[]) drawers[drawer])[i] = (int) v; return 1;
                    case 7: ((long[]) drawers[drawer])[i] = v; return 1;
                    case 8: ((byte[]) drawers[drawer])[i] = (byte) v; return 1;
                    default: return -2;
                }
            } catch (RuntimeException e) {
                return finding(e);
            }
        }

        String number(int drawer, int kind, int i) {
            try {
                switch (unknown(drawer) ? 0 : kind) {
                    case 6: return Integer.toString(((int[]) drawers[drawer])[i]);
                    case 7: return Long.toString(((long[]) drawers[drawer])[i]);
                    case 8: return Byte.toString(((byte[]) drawers[drawer])[i]);
                    default: return "0";
                }
            } catch (RuntimeException e) {
                return e.getClass().getSimpleName();
            }
        }

        int lay(int drawer, int kind, int i, int from) {
            if (unknown(drawer) || unknown(from)) {
                return -1;
            }
            if (kind < 9 || kind > 19) {
                return -2;
            }
            try {
                Object[] row = (Object[]) KINDS[kind].cast(drawers[drawer]);
                row[i] = KINDS[kind].getComponentType().cast(drawers[from]);
                return 1;
            } catch (RuntimeException e) {
                return finding(e);
            }
        }

        int piece(int drawer, int kind, int i) {
            if (unknown(drawer)) {
                return -1;
            }
            if (kind < 9 || kind > 19) {
                return -2;
            }
            try {
                return numberOf(((Object[]) KINDS[kind].cast(drawers[drawer]))[i]);
            } catch (RuntimeException e) {
                return finding(e);
            }
        }

        int pick(int drawer, int kind, int i, int to) {
            if (unknown(drawer) || unknown(to)) {
                return -1;
            }
            if (kind < 9 || kind > 19) {
                return -2;
            }
            try {
                Object[] row = (Object[]) KINDS[kind].cast(drawers[drawer]);
                Object picked = row[i];
                row[i] = null;
                drawers[to] = picked;
                return numberOf(picked);
            } catch (RuntimeException e) {
                return finding(e);
            }
        }

        int move(int from, int a, int to, int b, int n) {
            if (unknown(from) || unknown(to)) {
                return -1;
            }
            try {
                System.arraycopy(drawers[from], a, drawers[to], b, n);
                return 1;
            } catch (RuntimeException e) {
                return finding(e);
            }
        }

        int shine(int drawer, int kind) {
            if (unknown(drawer)) {
                return -1;
            }
            if (kind < 11 || kind > 16) {
                return -2;
            }
            try {
                int sum = 0;
                for (Object piece : (Object[]) KINDS[kind].cast(drawers[drawer])) {
                    sum += piece instanceof Shining ? ((Shining) piece).light() : 0;
                }
                return sum;
            } catch (RuntimeException e) {
                return finding(e);
            }
        }

        int many(int kind) {
            if (kind < 1 || kind > 20) {
                return -2;
            }
            int sum = 0;
            for (Object thing : drawers) {
                sum += KINDS[kind].isInstance(thing) ? 1 : 0;
            }
            return sum;
        }

        int count(int what) {
            if (what < 0 || what > 6) {
                return -2;
            }
            if (what > 1) {
                return findings[what - 1];
            }
            int sum = 0;
            for (Object thing : drawers) {
                sum += thing != null ? 1 : 0;
            }
            return what == 0 ? things.size() : sum;
        }

        int clear() {
            int before = things.size();
            things.clear();
            drawers = new Object[16];
            findings = new int[6];
            return before;
        }
    }

    private long state;
    /** In some runs more calls make things, so that the hall grows full. */
    private int hurry;

    private int upTo(int bound) {
        state = state * 6364136223846793005L + 1442695040888963407L;
        return (int) ((state >>> 33) % bound);
    }

    /** Mostly low .. high, now and then a bit or far outside. */
    private int about(int low, int high) {
        switch (upTo(60)) {
            case 0: return low - 1;
            case 1: return high + 1;
            case 2: return upTo(8) == 0 ? (upTo(2) == 0 ? Integer.MIN_VALUE : Integer.MAX_VALUE) : low;
            default: return low + upTo(high - low + 1);
        }
    }

    /** A kind as which the drawer's thing can be taken, more often than not. */
    private int kindFor(Model model, int drawer) {
        int kind = about(1, 20);
        for (int tries = upTo(60); tries > 0 && model.is(drawer, kind) != 1; tries--) {
            kind = 6 + upTo(14);
        }
        return kind;
    }

    /** A drawer that holds a row of the form, as far as a few tries find one; the rest come about as well. */
    private int drawerFor(Model model, int lowestForm, int highestForm) {
        int drawer = about(0, 15);
        for (int tries = upTo(16); tries > 0; tries--) {
            int label = model.label(drawer);
            if (label >= lowestForm && label <= highestForm) {
                break;
            }
            drawer = upTo(16);
        }
        return drawer;
    }

    /** A drawer whose thing can be taken as a piece of the kind, as far as a few tries find one. */
    private int pieceFor(Model model, int kind) {
        int drawer = about(0, 15);
        Class<?> piece = kind < 9 || kind > 19 ? Object.class : KINDS[kind].getComponentType();
        for (int tries = upTo(24); tries > 0 && !model.unknown(drawer); tries--) {
            if (piece.isInstance(model.drawers[drawer])) {
                break;
            }
            drawer = upTo(16);
        }
        return drawer;
    }

    private static final int[] SHEETS = {9, 10, 17, 18, 19};

    private void step(DrawerHall hall, Model model, Due due) {
        switch (upTo(hurry)) {
            case 0: case 1: {
                int form = about(1, 5);
                int weight = about(0, 999);
                due.same("thing " + form + " " + weight, hall.thing(form, weight), model.thing(form, weight));
                break;
            }
            case 2: case 3: {
                int form = about(6, 16);
                int n = upTo(6) == 0 ? about(0, 12) : about(1, 4);
                due.same("row " + form + " " + n, hall.row(form, n), model.row(form, n));
                break;
            }
            case 4: {
                int form = upTo(8) == 0 ? about(1, 20) : SHEETS[upTo(5)];
                int n = about(0, 6) / (1 + upTo(3));
                int m = upTo(4) == 0 ? 9 : about(0, 6);
                due.same("sheet " + form + " " + n + " " + m, hall.sheet(form, n, m), model.sheet(form, n, m));
                break;
            }
            case 5: case 6: case 7: case 8: {
                int drawer = about(0, 15);
                int thing = upTo(10) == 0 ? -5 : about(0, Math.max(model.things.size() - 1, 0));
                due.same("keep " + drawer + " " + thing, hall.keep(drawer, thing), model.keep(drawer, thing));
                break;
            }
            case 9: case 10:
                overall(hall, model, due);
                break;
            default:
                ask(hall, model, due);
        }
    }

    private void overall(DrawerHall hall, Model model, Due due) {
        int what = about(0, 6);
        int kind = about(1, 20);
        switch (upTo(128)) {
            case 0:
                due.same("clear", hall.clear(), model.clear());
                break;
            case 1:
                due.same("count " + what, hall.count(what), model.count(what));
                break;
            default:
                due.same("many " + kind, hall.many(kind), model.many(kind));
        }
    }

    private void ask(DrawerHall hall, Model model, Due due) {
        int d = about(0, 15);
        int kind = kindFor(model, d);
        String of = " " + d + " " + kind;
        switch (upTo(16)) {
            case 0: due.same("held " + d, hall.held(d), model.held(d)); break;
            case 1: due.same("is" + of, hall.is(d, kind), model.is(d, kind)); break;
            case 2: due.same("label " + d, hall.label(d), model.label(d)); break;
            case 3: due.same("weight " + d, hall.weight(d), model.weight(d)); break;
            case 4: due.same("light " + d, hall.light(d), model.light(d)); break;
            case 5: due.same("size" + of, hall.size(d, kind), model.size(d, kind)); break;
            case 6: case 7: askNumbers(hall, model, due); break;
            default: askRows(hall, model, due);
        }
    }

    private void askNumbers(DrawerHall hall, Model model, Due due) {
        int d = drawerFor(model, 6, 8);
        int kind = kindFor(model, d);
        int i = about(0, 2);
        String of = " " + d + " " + kind + " " + i;
        if (upTo(2) == 0) {
            due.same("number" + of, Due.number(hall, d, kind, i), model.number(d, kind, i));
        } else {
            long v = (long) (upTo(Integer.MAX_VALUE) - (1 << 30)) << upTo(40);
            due.same("put" + of + " " + v, hall.put(d, kind, i, v), model.put(d, kind, i, v));
        }
    }

    private void askRows(DrawerHall hall, Model model, Due due) {
        int d = drawerFor(model, 9, 19);
        int kind = kindFor(model, d);
        int i = about(0, 2);
        String of = " " + d + " " + kind;
        switch (upTo(12)) {
            case 0: due.same("piece" + of + " " + i, hall.piece(d, kind, i), model.piece(d, kind, i)); break;
            case 1: {
                int to = about(0, 15);
                due.same("pick" + of + " " + i + " " + to, hall.pick(d, kind, i, to), model.pick(d, kind, i, to));
                break;
            }
            case 2: case 3: case 4: {
                int to = upTo(4) == 0 ? d : drawerFor(model, 6, 19);
                int b = about(0, 2);
                int n = about(0, 3);
                due.same("move " + d + " " + i + " " + to + " " + b + " " + n,
                    hall.move(d, i, to, b, n), model.move(d, i, to, b, n));
                break;
            }
            case 5: due.same("shine" + of, hall.shine(d, kind), model.shine(d, kind)); break;
            default: {
                int from = pieceFor(model, kind);
                due.same("lay" + of + " " + i + " " + from, hall.lay(d, kind, i, from), model.lay(d, kind, i, from));
            }
        }
    }

    /** A wrong change that no call asked after shows here, in the drawers and in as many things as calls are left. */
    private void compareEnds(DrawerHall hall, Model model, Due due) {
        int calls = CALLS;
        for (int what = 0; what <= 6; what++, calls++) {
            due.same("at the end count " + what, hall.count(what), model.count(what));
        }
        for (int drawer = 0; drawer < 16; drawer++, calls++) {
            due.same("at the end held " + drawer, hall.held(drawer), model.held(drawer));
        }
        int things = model.things.size();
        while (things > 0 && calls + CALLS_FOR_A_THING <= MOST_CALLS) {
            compareThing(hall, model, upTo(things), due);
            calls += CALLS_FOR_A_THING;
        }
    }

    /** At most CALLS_FOR_A_THING calls; in a long row only the first places are looked at. */
    private static void compareThing(DrawerHall hall, Model model, int thing, Due due) {
        hall.keep(0, thing);
        model.keep(0, thing);
        int label = hall.label(0);
        String of = "at the end " + thing + ": ";
        due.same(of + "label", label, model.label(0));
        due.same(of + "weight", hall.weight(0), model.weight(0));
        due.same(of + "size " + label, hall.size(0, label), model.size(0, label));
        for (int i = 0; i < CALLS_FOR_A_THING - 4; i++) {
            if (label < 9) {
                due.same(of + "number " + i, Due.number(hall, 0, label, i), model.number(0, label, i));
            } else {
                due.same(of + "piece " + i, hall.piece(0, label, i), model.piece(0, label, i));
            }
        }
    }

    public static void main(String[] args) {
        Due due = new Due();
        MachineTest test = new MachineTest();
        for (int run = 0; run < RUNS; run++) {
            test.state = run;
            test.hurry = run % 3 == 0 ? 20 : 48;
            DrawerHall hall = new DrawerHall();
            Model model = new Model();
            for (int call = 0; call < CALLS; call++) {
                if (run % 2 == 1 && call == CALLS_AHEAD_OF_CLEAR) {
                    due.same("clear", hall.clear(), model.clear());
                } else {
                    test.step(hall, model, due);
                }
            }
            test.compareEnds(hall, model, due);
        }
        due.end();
    }
}

import java.util.Set;

/** Makes calls that are told as text, as "loss(0, 10, 5)"; MIN and MAX stand for the least and the greatest int. */
final class Calls {
    /** What the answer of a call is told as if it throws. */
    static final Set<String> REFUSALS = Set.of("index", "argument", "state");

    private static final Set<String> QUESTIONS = Set.of("occurrence", "hit", "sum", "reinsurer", "rounds", "best",
        "bestAnew", "ofBond", "basis", "price", "tail", "dearest", "hour");

    private Calls() {
    }

    static boolean isQuestion(String call) {
        return QUESTIONS.contains(nameOf(call));
    }

    /** The answer as a number, or which of the three exceptions was thrown, or the name of any other one. */
    static String answer(Stormbond x, String call) {
        long[] arguments = argumentsOf(call);
        try {
            return Long.toString(make(x, nameOf(call), arguments));
        } catch (RuntimeException e) {
            return nameOfThrown(e);
        }
    }

    static String nameOfThrown(RuntimeException e) {
        if (e.getClass() == IndexOutOfBoundsException.class) {
            return "index";
        }
        if (e.getClass() == IllegalArgumentException.class) {
            return "argument";
        }
        return e.getClass() == IllegalStateException.class ? "state" : e.toString();
    }

    private static String nameOf(String call) {
        return call.substring(0, call.indexOf('('));
    }

    private static long[] argumentsOf(String call) {
        String inside = call.substring(call.indexOf('(') + 1, call.lastIndexOf(')'));
        if (inside.isBlank()) {
            return new long[0];
        }
        String[] words = inside.split(",");
        long[] row = new long[words.length];
        for (int i = 0; i < words.length; i++) {
            row[i] = numberOf(words[i].trim());
        }
        return row;
    }

    private static long numberOf(String word) {
        return switch (word) {
            case "MIN" -> Integer.MIN_VALUE;
            case "MAX" -> Integer.MAX_VALUE;
            case "true" -> 1;
            case "false" -> 0;
            default -> Long.parseLong(word);
        };
    }

    private static long make(Stormbond x, String name, long[] row) {
        int[] a = new int[row.length];
        for (int i = 0; i < row.length; i++) {
            a[i] = Math.toIntExact(row[i]);
        }
        return isQuestion(name + "()") ? ask(x, name, a) : tell(x, name, a);
    }

    private static long tell(Stormbond x, String name, int[] a) {
        return switch (name) {
            case "loss" -> x.loss(a[0], a[1], a[2]);
            case "creep" -> x.creep(a[0], a[1]);
            case "choose" -> x.choose(a[0], a[1], a[2]);
            case "unchoose" -> x.unchoose();
            case "quota" -> x.quota(a[0]);
            case "layer" -> x.layer(a[0], a[1], a[2], a[3], a[4], a[5]);
            case "part" -> x.part(a[0], a[1], a[2]);
            case "retro" -> x.retro(a[0], a[1], a[2], a[3]);
            case "station" -> x.station(a[0]);
            case "reading" -> x.reading(a[0], a[1], a[2], a[3]);
            case "fails" -> x.fails(a[0], a[1]);
            case "bond" -> x.bond(a[0], a[1], a[2], a[3], a[4], a[5], a[6]);
            case "extend" -> x.extend(a[0], a[1]);
            case "pass" -> x.pass(a[0]);
            case "scenario" -> x.scenario(a[0], a[1], a[2]);
            default -> throw new AssertionError("no such call: " + name);
        };
    }

    private static long ask(Stormbond x, String name, int[] a) {
        return switch (name) {
            case "occurrence" -> x.occurrence(a[0], a[1]);
            case "hit" -> x.hit(a[0], a[1], a[2]);
            case "sum" -> x.sum(a[0]);
            case "reinsurer" -> x.reinsurer(a[0], a[1]);
            case "rounds" -> x.rounds();
            case "best" -> x.best(a[0]);
            case "bestAnew" -> x.bestAnew(a[0]);
            case "ofBond" -> x.ofBond(a[0], a[1]);
            case "basis" -> x.basis();
            case "price" -> x.price(a[0], a[1]);
            case "tail" -> x.tail(a[0], a[1], a[2]);
            case "dearest" -> x.dearest(a[0], a[1] == 1);
            case "hour" -> x.hour();
            default -> throw new AssertionError("no such call: " + name);
        };
    }
}

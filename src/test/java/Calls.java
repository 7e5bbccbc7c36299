/** Makes calls by their names, on the program, and tells their answers as PlainModel does. */
final class Calls {
    private Calls() {
    }

    /** A Long (a boolean counts 1 or 0), or the name of the exception that the call throws. */
    static Object answer(Wallplan plan, String name, int... a) {
        Object answer = Check.outcome(() -> called(plan, name, a));
        if (answer instanceof Boolean) {
            return (Boolean) answer ? 1L : 0L;
        }
        return answer instanceof Integer ? (Object) ((Integer) answer).longValue() : answer;
    }

    private static Object called(Wallplan plan, String name, int[] a) {
        switch (name) {
            case "add": return plan.add(a[0], a[1], a[2], a[3], a[4], a[5]);
            case "move": return plan.move(a[0], a[1], a[2], a[3], a[4]);
            case "remove": return plan.remove(a[0], a[1], a[2]);
            case "clear": return plan.clear(a[0], a[1], a[2]);
            case "part": return plan.part(a[0], a[1]);
            case "lead": return plan.lead(a[0], a[1]);
            case "order": return plan.order(a[0]);
            case "cancel": return plan.cancel(a[0]);
            case "build": return plan.build(a[0]);
            case "inspect": return plan.inspect(a[0]);
            case "pass": return plan.pass(a[0]);
            case "day": return plan.day();
            case "revision": return plan.revision();
            case "elementOf": return plan.elementOf(a[0], a[1]);
            case "clash": return plan.clash(a[0], a[1]);
            case "clashes": return plan.clashes(a[0]);
            case "isStopped": return plan.isStopped(a[0], a[1]);
            case "parts": return plan.parts(a[0]);
            case "partsAnew": return plan.partsAnew(a[0]);
            case "ordered": return plan.ordered(a[0]);
            case "kindsAt": return plan.kindsAt(a[0], a[1], a[2]);
            case "isLocked": return plan.isLocked(a[0]);
            default: throw new AssertionError(name);
        }
    }
}

/**
 * All that the calls tell of an object, but for kindsAt, in one text. The object is spent with it:
 * settings are told only by the calls that change them.
 */
final class Snapshot {
    private Snapshot() {
    }

    static String of(Wallplan plan) {
        StringBuilder text = new StringBuilder();
        text.append("day ").append(plan.day()).append(", revision ").append(plan.revision());
        for (int kind = 0; kind < 3; kind++) {
            text.append(", parts of ").append(kind).append(' ').append(plan.parts(kind));
            text.append('/').append(plan.partsAnew(kind)).append('/').append(plan.ordered(kind));
        }
        for (int storey = 0; storey < 4; storey++) {
            text.append(", clashes on ").append(storey).append(' ').append(plan.clashes(storey));
            text.append(plan.isLocked(storey) ? " locked" : " open");
            for (int trade = 0; trade < 3; trade++) {
                text.append(plan.isStopped(trade, storey) ? " stopped" : " free");
            }
        }
        appendElements(text, plan);
        appendSettings(text, plan);
        return text.toString();
    }

    private static void appendElements(StringBuilder text, Wallplan plan) {
        for (int element = 0; isElement(plan, element); element++) {
            text.append(", element ").append(element).append(':');
            int state = plan.elementOf(element, 6);
            for (int what = 0; what < 10; what++) {
                text.append(' ').append(what == 6 ? state : plan.elementOf(element, what));
            }
            if (state == Wallplan.ORDERED) {
                text.append(" left ").append(plan.cancel(element));
            }
        }
    }

    private static boolean isElement(Wallplan plan, int element) {
        return !"IndexOutOfBoundsException".equals(Check.outcome(() -> plan.elementOf(element, 0)));
    }

    private static void appendSettings(StringBuilder text, Wallplan plan) {
        for (int kind = 0; kind < 3; kind++) {
            text.append(", part ").append(plan.part(kind, 1)).append(", lead ").append(plan.lead(kind, 0));
            for (int other = kind; other < 3; other++) {
                text.append(", clearance ").append(plan.clear(kind, other, 0));
            }
        }
    }
}

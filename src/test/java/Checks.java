/** Compares answers with what is due, prints each that differs, and ends the test. */
final class Checks {
    private static int wrong = 0;
    private static String sentence = "";

    private Checks() {
    }

    /** The words of the document that the checks from here on are for; shown with each that fails. */
    static void sentence(String words) {
        sentence = "\"" + words + "\": ";
    }

    static void due(String call, long got, long want) {
        if (got != want) {
            wrong++;
            System.out.println(sentence + call + " answered " + got + ", due is " + want);
        }
    }

    static void due(String call, boolean got, boolean want) {
        due(call, got ? 1 : 0, want ? 1 : 0);
    }

    static void due(String what, String got, String want) {
        if (!got.equals(want)) {
            wrong++;
            System.out.println(sentence + what + " was\n" + got + "\ndue is\n" + want);
        }
    }

    static boolean anyWrong() {
        return wrong != 0;
    }

    static void finish() {
        if (wrong != 0) {
            System.out.println(wrong + " answers are not as due");
            System.exit(1);
        }
    }

    /** All that the face tells of a heap, to see that a call changed nothing or what it changed. */
    static String state(RegionHeap heap) {
        StringBuilder text = new StringBuilder();
        for (int root = 0; root < 6; root++) {
            text.append("root ").append(root).append(": #").append(heap.serial(root))
                .append(" at ").append(heap.region(root)).append('+').append(heap.offset(root))
                .append(" size ").append(heap.size(root)).append('\n');
        }
        for (int region = 0; region < 12; region++) {
            text.append("region ").append(region).append(": kind ").append(heap.kind(region))
                .append(" used ").append(heap.used(region)).append(" live ").append(heap.live(region))
                .append(" incoming ").append(heap.incoming(region)).append('\n');
        }
        for (int which = 0; which < 4; which++) {
            text.append("count ").append(which).append(": ").append(heap.count(which)).append('\n');
        }
        return text.append("chosen ").append(heap.chosen(1000)).append('\n').toString();
    }

    /** The kinds of the regions 0 .. 11 as twelve digits. */
    static String kinds(RegionHeap heap) {
        StringBuilder text = new StringBuilder();
        for (int region = 0; region < 12; region++) {
            text.append(heap.kind(region));
        }
        return text.toString();
    }

    /** "region+offset" of what a root holds. */
    static String place(RegionHeap heap, int root) {
        return heap.region(root) + "+" + heap.offset(root);
    }
}

/** Counts the answers that are not the ones that are due, and ends a test accordingly. */
final class Due {
    private static int looked = 0;
    private static int wrong = 0;

    private Due() {
    }

    static void is(String call, long got, long due) {
        looked++;
        if (got != due) {
            wrong++;
            System.out.println(call + " answered " + got + ", due is " + due);
        }
    }

    static void end() {
        System.out.println(looked + " answers, " + wrong + " not as due");
        if (looked == 0 || wrong != 0) {
            System.exit(1);
        }
    }

    /** Puts a text on the pad, eight characters in a call; returns what the last call answered. */
    static int write(LocoFrames x, String text) {
        int answer = 0;
        for (int from = 0; from < text.length(); from += 8) {
            answer = x.put(packed(text.substring(from, Math.min(text.length(), from + 8))));
        }
        return answer;
    }

    /** The number that gives these characters to put(). */
    static long packed(String characters) {
        long number = 0;
        for (int i = 0; i < characters.length(); i++) {
            number = number << 8 | characters.charAt(i);
        }
        return number;
    }

    static String repeated(String text, int times) {
        StringBuilder all = new StringBuilder();
        for (int i = 0; i < times; i++) {
            all.append(text);
        }
        return all.toString();
    }

    /**
     * Everything that the questions tell of the object but the pad and the history, in one text:
     * two objects with like texts answer alike from then on, but for when noise spoiled last.
     */
    static String seen(LocoFrames x) {
        StringBuilder all = new StringBuilder();
        for (int what = 0; what < 10; what++) {
            all.append(x.count(what)).append(' ');
        }
        for (int block = 0; block < 8; block++) {
            all.append(x.block(block, 0)).append(' ').append(x.block(block, 1)).append(' ');
        }
        int locos = x.count(1);
        for (int rank = 0; rank < locos; rank++) {
            int address = x.address(rank);
            all.append("| ").append(address).append(' ');
            for (int what = 0; what < 12; what++) {
                all.append(x.of(address, what)).append(' ');
            }
        }
        int orders = x.count(2);
        for (int rank = 0; rank < orders; rank++) {
            all.append("; ");
            for (int what = 0; what < 3; what++) {
                all.append(x.waiting(rank, what)).append(' ');
            }
        }
        return all.toString();
    }

    /** As seen(), with the pad's length and fault and the number of changes that can be undone. */
    static String whole(LocoFrames x) {
        return seen(x) + "# " + x.count(10) + ' ' + x.fault() + ' ' + x.count(11);
    }

    /** An answer that is an error code, and the object as it was before. */
    static void refused(LocoFrames x, String before, String call, long got, long due) {
        is(call, got, due);
        same("the object after " + call, whole(x), before);
    }

    static void same(String what, String got, String due) {
        is(what + " [" + got + "] compared with [" + due + "]", got.equals(due) ? 1 : 0, 1);
    }
}

/** Tells answers that are not as due, under the sentence of the document that they break. */
final class Due {
    private String sentence = "";
    private int sentences = 0;
    private int wrong = 0;

    /** All that is asked from now on belongs to this sentence. */
    void sentence(String words) {
        sentence = words;
        sentences++;
    }

    void is(String call, int got, int want) {
        if (got != want) {
            wrong++;
            System.out.println(sentence + " -- " + call + " answered " + got + ", due is " + want);
        }
    }

    void is(String call, boolean got, boolean want) {
        is(call, got ? 1 : 0, want ? 1 : 0);
    }

    /** Numbers beside a range, at the ends of int, and such as a narrower type or a product would fold into it. */
    static int[] outside(int low, int high) {
        return new int[] {
            low - 1, high + 1, Integer.MIN_VALUE, Integer.MAX_VALUE,
            Integer.MIN_VALUE + high, low + (1 << 16), low + (1 << 27), low + (1 << 30)
        };
    }

    void end() {
        System.out.println(wrong == 0 ? "all " + sentences + " sentences hold" : wrong + " answers are not as due");
        if (wrong != 0) {
            System.exit(1);
        }
    }
}

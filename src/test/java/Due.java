/** What the tests share: answers that are due, texts typed, and the exit code. */
final class Due {
    private int wrong = 0;
    private int asked = 0;

    void due(String call, long got, long want) {
        asked++;
        if (got != want) {
            wrong++;
            System.out.println(call + " answered " + got + ", due is " + want);
        }
    }

    void holds(String what, boolean so) {
        due(what, so ? 1 : 0, 1);
    }

    int wrong() {
        return wrong;
    }

    void end() {
        System.out.println(asked + " answers, " + wrong + " wrong");
        if (wrong != 0 || asked == 0) {
            System.exit(1);
        }
    }

    /** What street() answers to a text. */
    static int street(QuarrelWalls x, String text) {
        for (int k = 0; k < text.length(); k++) {
            x.type(text.charAt(k));
        }
        return x.street();
    }

    static QuarrelWalls of(String text) {
        QuarrelWalls x = new QuarrelWalls();
        if (street(x, text) < 1) {
            throw new IllegalArgumentException(text);
        }
        return x;
    }

    /** All that the face shows of a street, so that two states can be told apart. */
    static String shown(QuarrelWalls x) {
        StringBuilder all = new StringBuilder();
        for (int what = 0; what <= 9; what++) {
            all.append("count ").append(what).append('=').append(x.count(what)).append(' ');
        }
        int gardens = x.count(0);
        for (int g = 0; g < gardens; g++) {
            for (int what = 0; what <= 5; what++) {
                all.append("of ").append(g).append(' ').append(what).append('=').append(x.of(g, what)).append(' ');
            }
        }
        for (int w = 0; w < gardens - 1; w++) {
            for (int what = 0; what <= 3; what++) {
                all.append("wall ").append(w).append(' ').append(what).append('=').append(x.wall(w, what)).append(' ');
            }
        }
        int draw = x.seed(0);
        x.seed(draw);
        return all.append("draw=").append(draw).toString();
    }
}

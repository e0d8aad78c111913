/** All that can be seen of an object, as text; the object is changed by being looked at. 420 calls at most. */
final class Looks {
    private final LettersThatCross x;
    private final StringBuilder seen = new StringBuilder();

    private Looks(LettersThatCross x) {
        this.x = x;
    }

    static String of(LettersThatCross x) {
        Looks looks = new Looks(x);
        looks.counts();
        looks.ways();
        looks.letters();
        looks.hands();
        looks.texts();
        looks.image();
        looks.sheets();
        looks.see("text", x.text());
        return looks.seen.toString();
    }

    private void see(String what, long answer) {
        seen.append(what).append(' ').append(answer).append('\n');
    }

    private void counts() {
        for (int what = 0; what < 6; what++) {
            see("count", x.count(what));
        }
    }

    private void ways() {
        int ways = x.count(0);
        for (int w = 0; w < ways; w++) {
            see("arrive", x.arrive(w, 0));
            see("arrive", x.arrive(w, 1));
            see("arrive", x.arrive(w, 391));
            see("cost", x.taken(w, 6));
            see("copies", x.copies(w, 1));
            see("alone", x.surer(11 * w, 0));
        }
    }

    private void letters() {
        int letters = x.count(1);
        for (int l = 0; l < letters; l++) {
            for (int what = 0; what < 10; what++) {
                see("told", x.told(l, what));
            }
            see("done", x.times(l, 999));
        }
        see("chain", x.both(999, 0));
        see("never", x.never(999, 0));
        see("forged", x.forged());
    }

    private void hands() {
        int[] twos = {1, 2, 10, 12, 20, 21};
        for (int t = 0; t < 4; t++) {
            for (int h = 0; h < 3; h++) {
                see("at first", x.holdsThen(h, t, 0));
                see("at last", x.holdsThen(h, t, 999));
            }
            for (int two : twos) {
                see("known", x.knew(two, t, 999, 0));
                see("as of", x.knew(two, t, 999, 1));
            }
        }
    }

    private void texts() {
        int law = x.count(4);
        int texts = x.count(3);
        for (int t = 0; t < texts; t++) {
            x.force(t);
            see("days", x.arrive(0, 0));
            see("ring", x.ring(0, 30, 0));
            see("keep", x.obeys(0, 999));
        }
        x.force(law);
    }

    /** By what letters are lost, also such as came since the image. */
    private void image() {
        int letters = x.count(1);
        for (int l = 0; l < letters; l++) {
            see("lost", x.lose(l, 0));
        }
        see("back", x.back());
        letters = x.count(1);
        counts();
        for (int h = 0; h < 3; h++) {
            for (int t = 0; t < 4; t++) {
                see("at first", x.holdsThen(h, t, 0));
            }
        }
        for (int l = 0; l < letters; l++) {
            see("lost", x.lose(l, 0));
        }
    }

    private void sheets() {
        for (int s = 0; s < 4; s++) {
            for (int sort = 0; sort < 3; sort++) {
                see("sort", x.lettersBy(s, sort, 0, 0));
            }
            int size = 0;
            for (int step = 32; step > 0; step /= 2) {
                size += x.copy(s, size + step, s, size + step, 0) == 0 ? step : 0;
            }
            see("size", size);
            for (int sort = 0; sort < 3; sort++) {
                see("letters", x.lettersBy(s, sort, 0, Math.min(8, size / 5)));
            }
        }
        int letters = x.count(1);
        for (int l = Math.max(0, letters - 4); l < letters; l++) {
            see("day", x.told(l, 3));
            see("more", x.told(l, 6));
        }
    }
}

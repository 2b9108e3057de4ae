/** Runs of calls, drawn from fixed seeds, whose answers are compared with those of the model. */
public final class ModelTest {
    private static final int RUNS = 3000;
    private static final int CALLS = 440;
    private static final int[] LOWEST = {1, 0, 0, 5, 10, 1, 1};
    private static final int[] HIGHEST = {11, 9, 5, 50, 99, 500, 9999};

    private static final Due due = new Due();
    private static long seed;

    private final ThreadWinder winder = new ThreadWinder();
    private final Model model = new Model();
    private int calls = 0;
    // Some runs break often, some wind long, some write a lot: what one of them meets, others don't.
    private final int manner = draw(4);

    public static void main(String[] args) {
        for (int run = 1; run <= RUNS; run++) {
            seed = 7919L * run;
            due.about("run " + run);
            ModelTest test = new ModelTest();
            while (test.calls < CALLS) {
                test.oneStep();
            }
            test.lookAtAll();
        }
        due.end();
    }

    private static int draw(int bound) {
        seed = seed * 6364136223846793005L + 1442695040888963407L;
        return (int) Math.floorMod(seed >>> 33, (long) bound);
    }

    private void same(String call, int got, int want) {
        calls++;
        due.is("call " + calls + ", " + call, got, want);
    }

    private void oneStep() {
        switch (draw(20)) {
            case 0: case 1: case 2:
                setNumber();
                break;
            case 3: case 4: case 5: case 6: case 7:
                wind();
                break;
            case 8: case 9: case 10:
                same("knot()", winder.knot(), model.knot());
                break;
            case 11:
                newCone();
                break;
            case 12:
                if (draw(3) == 0) {
                    same("doff()", winder.doff(), model.doff());
                }
                break;
            case 13:
                if (draw(manner == 2 ? 1 : 4) == 0) {
                    text();
                }
                break;
            case 14:
                history();
                break;
            default:
                look();
                break;
        }
    }

    private void setNumber() {
        int which = draw(40) == 0 ? draw(9) - 2 : draw(5);
        int value = draw(15) == 0 ? draw(120) - 10 : which >= 0 && which < 5 ? valueOf(which) : draw(9);
        if (which == 4 && manner != 1 && draw(2) == 0) {
            value = 60 + draw(40);
        }
        same("set(" + which + ", " + value + ")", winder.set(which, value), model.set(which, value));
    }

    private int valueOf(int which) {
        return LOWEST[which] + draw(HIGHEST[which] - LOWEST[which] + 1);
    }

    private void wind() {
        int turns = draw(30) == 0 ? draw(520) - 5 : 1 + draw(manner == 0 || manner == 3 ? 500 : 12);
        same("wind(" + turns + ")", winder.wind(turns), model.wind(turns));
    }

    private void newCone() {
        int length = draw(10) == 0 ? draw(3) * 5000 : 1 + draw(draw(3) == 0 ? 60 : 9999);
        if (manner == 3) {
            length = 9999;
        }
        same("cone(" + length + ")", winder.cone(length), model.cone(length));
    }

    private void history() {
        switch (draw(3)) {
            case 0:
                same("undo()", winder.undo(), model.undo());
                break;
            case 1:
                same("keep()", winder.keep(), model.keep());
                break;
            default:
                same("restore()", winder.restore(), model.restore());
                break;
        }
    }

    private void text() {
        if (draw(5) != 0) {
            same("clearText()", winder.clearText(), model.clearText());
        }
        StringBuilder text = new StringBuilder();
        int commands = 1 + draw(draw(4) == 0 ? 20 : 5);
        for (int i = 0; i < commands; i++) {
            text.append(i == 0 ? "" : ",").append(command());
        }
        if (draw(3) == 0) {
            spoil(text);
        }
        for (int i = 0; i < text.length() && calls < CALLS; i++) {
            char c = text.charAt(i);
            same("type(" + c + ")", winder.type(c), model.type(c));
        }
        same("perform() of " + text, winder.perform(), model.perform());
        same("stopped()", winder.stopped(), model.stopped());
    }

    private String command() {
        int which = draw(8);
        return which == 7 ? "n" : "tdwksgc".charAt(which) + String.valueOf(valueOf(which));
    }

    private void spoil(StringBuilder text) {
        int at = draw(text.length());
        char c = draw(8) == 0 ? (char) draw(65536) : "tdwksgcn,0123456789".charAt(draw(19));
        switch (draw(3)) {
            case 0:
                text.setCharAt(at, c);
                break;
            case 1:
                text.insert(at, c);
                break;
            default:
                text.deleteCharAt(at);
                break;
        }
    }

    private void look() {
        int a = draw(14) - 1;
        int b = draw(20) == 0 ? draw(600) - 20 : 1 + draw(500);
        int c = draw(5) - 1;
        switch (draw(8)) {
            case 0:
                same("breaksIn()", winder.breaksIn(), model.breaksIn());
                break;
            case 1:
                same("ifTraverse(" + a + ", " + b + ", " + c + ")", winder.ifTraverse(a, b, c),
                    model.ifTraverse(a, b, c));
                break;
            case 2:
                if (draw(6) == 0) {
                    same("bestTraverse(" + b + ")", winder.bestTraverse(b), model.bestTraverse(b));
                }
                break;
            case 3:
                same("period(" + a + ")", winder.period(a), model.period(a));
                break;
            case 4:
                same("wrong()", winder.wrong(), model.wrong());
                break;
            case 5:
                same("place(" + a + ", " + c + ")", winder.place(a, c), model.place(a, c));
                break;
            default:
                int what = draw(28) - 1;
                same("count(" + what + ")", winder.count(what), model.count(what));
                break;
        }
    }

    private void lookAtAll() {
        for (int what = 0; what < 25; what++) {
            same("count(" + what + ")", winder.count(what), model.count(what));
        }
        for (int place = 0; place < 12; place++) {
            same("place(" + place + ", 0)", winder.place(place, 0), model.place(place, 0));
            same("place(" + place + ", 1)", winder.place(place, 1), model.place(place, 1));
        }
        same("wrong()", winder.wrong(), model.wrong());
        for (int left = 4; left > 0; left--) {
            same("undo()", winder.undo(), model.undo());
            same("count(12)", winder.count(12), model.count(12));
        }
    }
}

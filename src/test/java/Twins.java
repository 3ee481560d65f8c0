import java.util.function.Supplier;
import java.util.function.ToIntFunction;

/** Two objects of one history: what a call leaves is held against what stands without it. */
final class Twins {
    private static final int LOOKS = 5;

    private final Check check;
    private final Supplier<StitchSays> maker;

    Twins(Check check, Supplier<StitchSays> maker) {
        this.check = check;
        this.maker = maker;
    }

    /** The call answers what is due, and all stays, the TAPE and the latest FAULT too. */
    void stay(String what, ToIntFunction<StitchSays> call, int due) {
        leave(what, call, due, x -> 0, true);
    }

    /** The call answers what is due and empties the TAPE; all else stays, but for the FAULT of the text. */
    void onlyEmptyTheTape(String what, ToIntFunction<StitchSays> call, int due, int fault, int place) {
        leave(what, call, due, x -> x.end(0), false);
        StitchSays x = maker.get();
        call.applyAsInt(x);
        check.due("bytes behind " + what, x.count(7), 0);
        check.due("fault(0) of " + what, x.fault(0), fault);
        check.due("fault(1) of " + what, x.fault(1), place);
    }

    /** The call answers what is due, and leaves all as another one would. */
    void leave(String what, ToIntFunction<StitchSays> call, int due, ToIntFunction<StitchSays> other, boolean faults) {
        for (int look = 0; look < LOOKS; look++) {
            StitchSays one = maker.get();
            StitchSays two = maker.get();
            check.due(what, call.applyAsInt(one), due);
            other.applyAsInt(two);
            check.dueText("all (" + look + ") behind " + what, look(look, one, faults), look(look, two, faults));
        }
    }

    /** Each look is a part of all that can be seen; some of them change what they look at, so each has its own object. */
    private static String look(int look, StitchSays x, boolean faults) {
        switch (look) {
            case 0:
                return (faults ? x.fault(0) + " at " + x.fault(1) : "") + counts(x) + cloths(x) + Check.letters(x) + sorts(x);
            case 1:
                return waysAndWatcher(x);
            case 2:
                return tape(x) + rows(x);
            case 3:
                return handAndLosses(x);
            default:
                return images(x);
        }
    }

    private static String counts(StitchSays x) {
        StringBuilder text = new StringBuilder();
        for (int what = 0; what <= 9; what++) {
            text.append(' ').append(x.count(what));
        }
        return text.toString();
    }

    private static String cloths(StitchSays x) {
        StringBuilder text = new StringBuilder();
        for (int c = 0; c < 4; c++) {
            text.append(' ').append(x.says(c) == -6 ? "-" : Check.cloth(x, c));
        }
        return text.toString();
    }

    private static String sorts(StitchSays x) {
        StringBuilder text = new StringBuilder(" ");
        for (int row = 0; row < x.count(0); row++) {
            for (int column = 0; column < x.count(1); column++) {
                text.append(x.sort(row, column));
            }
        }
        return text.toString();
    }

    private static String waysAndWatcher(StitchSays x) {
        StringBuilder text = new StringBuilder();
        for (int k = 0; k < 6; k++) {
            text.append(" way ").append(x.room(k)).append(' ').append(x.most(k));
            for (int i = 0; x.place(k, i) >= 0; i++) {
                text.append(' ').append(x.place(k, i));
            }
        }
        for (int c = 0; c < 4; c++) {
            text.append(" stops ").append(x.stops(c)).append(" says ").append(x.says(c)).append(" best ").append(x.best(c));
        }
        return text.append(" odds ").append(x.odds(9, 50)).append(" carries ").append(x.carries(0, 9, 50)).toString();
    }

    /** The TAPE as a text of a WAY. */
    private static String tape(StitchSays x) {
        return x.count(7) + " bytes: " + x.way(5) + " " + x.fault(0) + " " + x.fault(1) + " " + x.place(5, 0);
    }

    private static String rows(StitchSays x) {
        StringBuilder text = new StringBuilder(" rows");
        x.keep(2);
        for (int slot = 0; slot < 4; slot++) {
            text.append(" | ").append(x.lay(slot, 0)).append(Check.cloth(x, 0));
            x.back(2);
            for (int to = 0; to < 4; to++) {
                text.append(' ').append(x.paste(slot, 0, to, 0, 0));
            }
            int size = 0;
            while (size <= 60 && x.write(slot, size, 0) == 0) {
                size++;
            }
            text.append(" of ").append(size);
        }
        return text.toString();
    }

    private static String handAndLosses(StitchSays x) {
        StringBuilder text = new StringBuilder();
        for (int c = 0; c < 4; c++) {
            text.append(x.lose(c)).append(Check.cloth(x, c)).append(x.knit(c, 4711 + c)).append(Check.cloth(x, c)).append(' ');
        }
        return text.toString();
    }

    private static String images(StitchSays x) {
        StringBuilder text = new StringBuilder();
        for (int k = 0; k < 3; k++) {
            text.append(" image ").append(x.back(k)).append(counts(x)).append(cloths(x));
            text.append(" room ").append(x.room(0)).append(' ').append(x.room(3)).append(" stops ").append(x.stops(0));
            text.append(" lose ").append(x.lose(0)).append(" knit ").append(x.knit(0, 8)).append(Check.cloth(x, 0));
        }
        return text.toString();
    }

    /**
     * An object that has some of everything: CLOTHS 0, 1 (with losses), 3; WAYS 0, 3; a WATCHER, LOSSES;
     * "a" was read; SLOTS 0 to 2 have rows; IMAGES 0, 1; a FAULT 2 at 7; and a WAY's text on the TAPE.
     */
    static StitchSays full() {
        StitchSays x = new StitchSays();
        Check.pattern(x, "wide 6 rows 3;row fkfhfm;");
        Check.hand(x, "hand f 40 h 50 m 60;");
        Check.way(x, 0, "way over fhm;");
        x.knit(0, 1);
        x.keep(0);
        Check.way(x, 3, "way over f step 2 top;");
        Check.watcher(x, "stop if purls more 4;stop if runs less 2 and lost same 0;");
        Check.losses(x, "lose columns 5 to 5;moth 7 from 1;");
        x.knit(1, 2);
        x.lose(1);
        x.knit(3, 3);
        Check.put(x, 0, 0, "a");
        x.read(0, 0);
        x.keep(1);
        x.turn(3, 0, 0);
        x.row(0, 0, 3);
        x.write(0, 1, 1);
        x.row(1, 0, 5);
        x.write(1, 0, 7);
        x.write(1, 4, 7);
        x.row(2, 2, 4);
        x.write(2, 3, 9);
        Check.hand(x, "hand f 200");
        Check.tape(x, "way over f;");
        return x;
    }

    /** As full(), with another text on the TAPE. */
    static StitchSays full(String text) {
        StitchSays x = full();
        Check.tape(x, text);
        return x;
    }
}

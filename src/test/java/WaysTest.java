/** Promises 6 and 19 to 21: room of a way, place, room, most. */
public final class WaysTest {
    private static final Check CHECK = new Check("WaysTest");

    public static void main(String[] args) {
        places();
        rooms();
        wrongNumbers();
        CHECK.finish();
    }

    private static void places(String way, int... due) {
        StitchSays x = new StitchSays();
        Check.pattern(x, "wide 5 rows 4;row kpf;row hm;");
        // k p f k p / h m h m h / k p f k p / h m h m h
        CHECK.due(way, Check.way(x, 3, way) >= 0 ? 1 : 0, 1);
        for (int i = 0; i < due.length; i++) {
            CHECK.due("place " + i + " of " + way, x.place(3, i), due[i]);
        }
        CHECK.due("place behind all of " + way, x.place(3, due.length), -1);
        CHECK.due("place -1 of " + way, x.place(3, -1), -1);
    }

    private static void places() {
        places("way over f;", 2, 202);
        places("way over m;", 101, 103, 301, 303);
        places("way over hf;", 2, 100, 102, 104, 202, 300, 302, 304);
        places("way over fhm;", 2, 100, 101, 102, 103, 104, 202, 300, 301, 302, 303, 304);
        places("way over fhm turn;", 2, 104, 103, 102, 101, 100, 202, 304, 303, 302, 301, 300);
        places("way over fhm top;", 300, 301, 302, 303, 304, 202, 100, 101, 102, 103, 104, 2);
        places("way over fhm turn top;", 304, 303, 302, 301, 300, 202, 104, 103, 102, 101, 100, 2);
        places("way over fhm step 2;", 100, 102, 104, 300, 302, 304);
        places("way over fhm step 5;", 103, 302);
        places("way over fhm step 9 top;", 102);
        places("way over f step 3;");
        // Places that make no GROUP are places.
        places("way over m group 3;", 101, 103, 301, 303);
        places("way over f group 5 guard 5;", 2, 202);
    }

    private static void rooms() {
        StitchSays x = new StitchSays();
        Check.pattern(x, "wide 15 rows 2;row f;");
        String[] ways = {"way over f;", "way over f step 2;", "way over f step 9;", "way over f group 4;",
            "way over f guard 3;", "way over f group 4 guard 3;", "way over f step 2 group 2 guard 3;",
            "way over h;", "way over f group 5 guard 5;", "way over f step 3;", "way over f group 2;"};
        int[] rooms = {30, 15, 3, 7, 10, 2, 2, 0, 1, 10, 15};
        int[] letters = {5, 2, 0, 0, 1, 0, 0, 0, 0, 1, 2};
        for (int i = 0; i < ways.length; i++) {
            int k = i % 6;
            CHECK.due(ways[i], Check.way(x, k, ways[i]), rooms[i]);
            CHECK.due("room of " + ways[i], x.room(k), rooms[i]);
            CHECK.due("most of " + ways[i], x.most(k), letters[i]);
        }
        CHECK.due("all WAYS", x.count(3), 6);
        Check.pattern(x, "wide 16 rows 16;row f;");
        Check.way(x, 0, "way over f;");
        CHECK.due("room of all", x.room(0), 256);
        CHECK.due("most of all", x.most(0), 50);
        for (int wide = 4; wide <= 16; wide++) {
            Check.pattern(x, "wide " + wide + " rows 1;row f;");
            CHECK.due("most of " + wide, x.most(0), wide < 10 ? 0 : wide < 15 ? 1 : 2);
        }
    }

    private static void wrongNumbers() {
        StitchSays x = new StitchSays();
        CHECK.due("place(6, 0)", x.place(6, 0), -2);
        CHECK.due("place(-1, 0)", x.place(-1, 0), -2);
        CHECK.due("place(0, -1)", x.place(0, -1), -6);
        CHECK.due("room(6)", x.room(6), -2);
        CHECK.due("room(-1)", x.room(-1), -2);
        CHECK.due("room(5)", x.room(5), -6);
        CHECK.due("most(6)", x.most(6), -2);
        CHECK.due("most(-1)", x.most(-1), -2);
        CHECK.due("most(5)", x.most(5), -6);
        Check.way(x, 5, "way over f;");
        CHECK.due("room without a PATTERN", x.room(5), 0);
        CHECK.due("most without a PATTERN", x.most(5), 0);
        CHECK.due("place without a PATTERN", x.place(5, 0), -1);
        CHECK.due("room(4)", x.room(4), -6);
    }
}

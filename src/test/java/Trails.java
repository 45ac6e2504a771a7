import java.util.ArrayList;
import java.util.List;

/** Trails that tests begin with, written as runs, and a reading of all that a trail answers. */
final class Trails {
    /** Each kind is there, and none is full: 3 editions, 4 copies, 4 owners, 3 marks, 2 sales and 5 lots. */
    static final String ROOMY = """
            edition(1700, 8) = 0; edition(1585, 4) = 1; edition(1905, 2) = 2;
            copy(0, 100, 3) = 0; copy(0, 100, 7) = 1; copy(1, 50, 0) = 2; copy(2, 999, 255) = 3;
            owner(1650, 1800, 0) = 0; owner(1750, 2029, 3) = 1; owner(1850, 2029, 9) = 2; owner(1600, 1850, 0) = 3;
            heir(0, 1) = -1; system(1, 'n') = 'f'; rebind(0, 1750) = 1700;
            mark(0, 0, 's', 1710, 9) = 0; mark(0, 2, 'p', 1900, 30) = 1; mark(2, 3, 'a', 1610, 1) = 2; wash(2) = false;
            sale(0, 1790) = 0; sale(1, 1910) = 1;
            lot(0, 0, 8, 100, 7, 30, 1) = 0; lot(0, -1, 8, 0, 3, 90, 1) = 1; lot(0, 1, 4, 0, 128, 5, 1) = 2;
            lot(1, -1, 2, 0, 255, 9, 2) = 3; lot(1, 1, 12, 0, 0, 1, 2) = 4; confirm(0, 1) = -1;
            theft(2, 3, 1795) = 1; theft(0, 0, 1760) = 2; limit(9, 100) = 30; faith(2, false) = true;
            """;
    static final int[] ROOMY_COUNTS = {3, 4, 4, 3, 2, 5};

    /** Each kind is full: 8 editions, 10 copies, 12 owners, 40 marks, 6 sales and 20 lots, 5 of sales 0 to 3. */
    static final String FULL = fullTrail();
    static final int[] FULL_COUNTS = {8, 10, 12, 40, 6, 20};

    private Trails() {
    }

    private static String fullTrail() {
        StringBuilder text = new StringBuilder();
        int[] formats = {2, 4, 8, 12};
        for (int number = 0; number < 8; number++) {
            text.append("edition(" + (1450 + number * 60) + ", " + formats[number % 4] + ") = " + number + ";");
        }
        for (int number = 0; number < 10; number++) {
            text.append("copy(" + number % 8 + ", " + (1 + number) + ", " + number * 25 + ") = " + number + ";");
        }
        for (int number = 0; number < 12; number++) {
            text.append("owner(" + (1450 + number * 45) + ", " + (1534 + number * 45) + ", " + number % 10 + ") = "
                    + number + ";");
        }
        for (int number = 0; number < 40; number++) {
            int owner = number * 5 % 12;
            text.append("mark(" + number % 10 + ", " + owner + ", '" + "sipa".charAt(number / 10) + "', "
                    + (1460 + owner * 45) + ", " + (1 + number * 7 % 30) + ") = " + number + ";");
        }
        for (int number = 0; number < 6; number++) {
            text.append("sale(" + number * 2 + ", " + (1500 + number * 90) + ") = " + number + ";");
        }
        for (int number = 0; number < 20; number++) {
            text.append("lot(" + number % 4 + ", -1, " + formats[number / 5] + ", 0, " + number + ", " + (20 - number)
                    + ", " + number % 12 + ") = " + number + ";");
        }
        text.append("heir(0, 1) = -1; heir(10, 11) = -1; confirm(0, 0) = -1; confirm(1, 1) = -1;");
        return text.append("theft(0, 9, 1900) = 1; theft(1, 11, 1990) = 2; wash(0) = false").toString();
    }

    /** Asks for all that can be asked for, and last for what only a change tells; the trail is of no use behind it. */
    static List<String> readingOf(Run run, int[] counts) {
        Reading reading = new Reading(run);
        int copies = counts[1];
        int owners = counts[2];
        for (String call : new String[] {"checksum()", "knownShare()", "meanPrice()", "isSound()"}) {
            reading.ask(call);
        }
        for (String name : new String[] {"cost", "margin", "gaps", "stays", "lost", "dearest", "claim", "claimant"}) {
            reading.askEach(name, copies);
        }
        reading.askEach("weight", counts[3]);
        reading.askEach("test", counts[3]);
        reading.askEach("match", counts[5]);
        for (int lot = 0; lot < counts[5]; lot++) {
            reading.ask("score(" + lot + ", " + lot % copies + ")");
        }
        for (int owner = 0; owner < owners; owner++) {
            reading.ask("shelf(" + owner + ", 1910)");
            reading.ask("system(" + owner + ", 'f')");
            reading.ask("faith(" + owner + ", true)");
        }
        reading.askRest(counts);
        return reading.answers;
    }

    private static final class Reading {
        final List<String> answers = new ArrayList<>();
        private final Run run;

        Reading(Run run) {
            this.run = run;
        }

        void ask(String call) {
            answers.add(call + " = " + run.answer(call));
        }

        void askEach(String name, int count) {
            for (int number = 0; number < count; number++) {
                ask(name + "(" + number + ")");
            }
        }

        /** What only a change tells: limits, what is washed, withdrawn, confirmed, bindings, heirs, next numbers. */
        void askRest(int[] counts) {
            for (int place = 0; place < 10; place++) {
                ask("limit(" + place + ", 0)");
            }
            askEach("wash", counts[3]);
            for (int mark = 0; mark < counts[3]; mark++) {
                ask("withdraw(" + mark + ", false)");
            }
            askEach("reopen", counts[5]);
            for (int copy = 0; copy < counts[1]; copy++) {
                ask("rebind(" + copy + ", 2029)");
            }
            for (int owner = 0; owner < counts[2]; owner++) {
                askHeir(owner, counts[2]);
            }
            ask("edition(1999, 2)");
            ask("copy(0, 1, 0)");
            ask("owner(2029, 2029, 0)");
            ask("mark(0, 0, 's', 2000, 1)");
            ask("sale(0, 2000)");
            ask("lot(0, 0, 2, 0, 0, 1, 0)");
            ask("lot(" + (counts[4] - 1) + ", 0, 2, 0, 0, 1, 0)");
            ask("theft(1, 0, 2029)");
            ask("theft(3, 0, 2029)");
        }

        /** Tells an heir, the next one that can be, for the one before. */
        private void askHeir(int owner, int owners) {
            boolean isTaken = false;
            for (int step = 1; step < owners && !isTaken; step++) {
                ask("heir(" + owner + ", " + (owner + step) % owners + ")");
                isTaken = !answers.get(answers.size() - 1).contains("throws");
            }
        }
    }
}

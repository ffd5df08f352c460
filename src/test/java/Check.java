/** What the tests share: comparing answers, asking for exceptions, and making cities for a purpose. */
final class Check {
    interface Call {
        void run();
    }

    private static int checks = 0;
    private static int wrong = 0;

    private Check() {
    }

    static void due(String what, long got, long want) {
        checks++;
        if (got != want) {
            tell(what + " answered " + got + ", due is " + want);
        }
    }

    static void due(String what, double got, double want) {
        checks++;
        if (Double.compare(got, want) != 0) {
            tell(what + " answered " + got + ", due is " + want);
        }
    }

    static void due(String what, String got, String want) {
        checks++;
        if (!got.equals(want)) {
            tell(what + " answered " + got + ", due is " + want);
        }
    }

    /** The call throws just this class, none below it, and the city is as it was. */
    static void refuses(String what, CanalCity city, Class<?> want, Call call) {
        checks++;
        long before = city.digest();
        String got = "nothing";
        try {
            call.run();
        } catch (RuntimeException e) {
            got = e.getClass().getName();
        }
        if (!got.equals(want.getName())) {
            tell(what + " threw " + got + ", due is " + want.getName());
        }
        if (city.digest() != before) {
            tell(what + " changed the city");
        }
    }

    static void outside(String what, CanalCity city, Call call) {
        refuses(what, city, IndexOutOfBoundsException.class, call);
    }

    static void argument(String what, CanalCity city, Call call) {
        refuses(what, city, IllegalArgumentException.class, call);
    }

    static void state(String what, CanalCity city, Call call) {
        refuses(what, city, IllegalStateException.class, call);
    }

    /** Spends coins on the marsh with the greatest numbers (from 63 downwards) until so many are left. */
    static void spendTo(CanalCity city, int coins) {
        for (int place = 63; place >= 0 && city.count(1) > coins; place--) {
            int x = place % 8;
            int y = place / 8;
            if (city.lot(x, y, 0) != 0) {
                continue;
            }
            if ((city.count(1) - coins) % 2 == 1) {
                city.dig(x, y);
            } else {
                city.drain(x, y);
            }
        }
        due("coins after spending", city.count(1), coins);
    }

    static void drainAll(CanalCity city, int... places) {
        for (int place : places) {
            city.drain(place % 8, place / 8);
        }
    }

    static void digAll(CanalCity city, int... places) {
        for (int place : places) {
            city.dig(place % 8, place / 8);
        }
    }

    private static void tell(String text) {
        wrong++;
        System.out.println(text);
    }

    /** Ends the test program: with exit code 1 if a check failed or none was made. */
    static void end(String name) {
        System.out.println(name + ": " + checks + " checks, " + wrong + " wrong");
        if (wrong != 0 || checks == 0) {
            System.exit(1);
        }
    }
}

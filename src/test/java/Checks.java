/** Counts the answers that are not as due, and ends a test with them. */
final class Checks {
    private int made = 0;
    private int wrong = 0;

    void due(String call, long got, long want) {
        made++;
        if (got != want) {
            wrong++;
            System.out.println(call + " answered " + got + ", due is " + want);
        }
    }

    /** Types a text in place of the one that was. */
    static void write(WindRoses desk, String text) {
        desk.clearText();
        for (int i = 0; i < text.length(); i++) {
            desk.type(text.charAt(i));
        }
    }

    int writeAndLog(WindRoses desk, String text) {
        write(desk, text);
        return desk.logAll();
    }

    void end(String test) {
        System.out.println(test + ": " + made + " answers, " + wrong + " not as due");
        if (wrong != 0 || made == 0) {
            System.exit(1);
        }
    }
}

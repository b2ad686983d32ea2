import java.util.Arrays;

/** What a desk answers of itself, as a row: two desks of the same state have the same pictures. */
final class Picture {
    /** A whole picture would need more calls than are promised: so it has sections. */
    static final int SECTIONS = 18;
    /** The last section tells of the text, the history and the snapshot, all others of the state. */
    static final int HISTORY_SECTION = 17;

    private final int[] answers = new int[400];
    private int length = 0;

    private Picture() {
    }

    private void add(int answer) {
        answers[length] = answer;
        length++;
    }

    private int[] row() {
        return Arrays.copyOf(answers, length);
    }

    /** A state without the history: of the logs and plates that of port 0 and season 0. */
    static int[] brief(WindRoses desk) {
        Picture picture = new Picture();
        picture.addCounts(desk, 8);
        picture.addRose(desk, 0);
        for (int direction = 0; direction < 16; direction++) {
            picture.add(desk.hours(0, 0, direction, 3));
            picture.add(desk.petal(0, 0, direction, 0));
        }
        return picture.row();
    }

    static int[] section(WindRoses desk, int number) {
        Picture picture = new Picture();
        if (number < 16) {
            picture.addParts(desk, number);
        } else if (number == HISTORY_SECTION) {
            picture.addHistory(desk);
        } else {
            picture.addCounts(desk, 8);
            for (int rose = 0; rose < 16; rose++) {
                picture.addRose(desk, rose);
            }
        }
        return picture.row();
    }

    private void addCounts(WindRoses desk, int last) {
        for (int what = 0; what <= last; what++) {
            add(desk.count(what));
        }
        add(desk.nextPlate());
    }

    private void addRose(WindRoses desk, int rose) {
        for (int what = 0; what <= 9; what++) {
            add(desk.rose(rose / 4, rose % 4, what));
        }
        for (int what = 0; what <= 5; what++) {
            add(desk.plate(rose / 4, rose % 4, what));
        }
        add(desk.reason(rose / 4, rose % 4));
    }

    private void addParts(WindRoses desk, int rose) {
        for (int part = 0; part < 48; part++) {
            add(desk.hours(rose / 4, rose % 4, part / 3, part % 3));
            add(desk.share(rose / 4, rose % 4, part / 3, part % 3));
            add(desk.petal(rose / 4, rose % 4, part / 3, part % 3));
        }
    }

    /** The text, the snapshot and the states that are kept: each is told by what is got out of it. */
    private void addHistory(WindRoses desk) {
        for (int i = 0; i < 5; i++) {
            add(desk.undo());
            addCounts(desk, 10);
        }
        add(desk.restore());
        addCounts(desk, 10);
        add(desk.logAll());
        add(desk.clearText());
    }
}

/** Desks on which something has been done. */
final class Desks {
    private Desks() {
    }

    /** Logs windy hours, or calm ones if the speed is 0, in as many calls as they need. */
    static void log(WindRoses desk, int port, int season, int direction, int speed, int hours) {
        for (int left = hours; left > 0; left -= 99) {
            if (speed == 0) {
                desk.calm(port, season, Math.min(left, 99));
            } else {
                desk.log(port, season, direction, speed, Math.min(left, 99));
            }
        }
    }

    static WindRoses withCalm(int port, int season, int hours) {
        WindRoses desk = new WindRoses();
        log(desk, port, season, 0, 0, hours);
        return desk;
    }

    static WindRoses withWind(int port, int season, int direction, int speed, int hours) {
        WindRoses desk = new WindRoses();
        log(desk, port, season, direction, speed, hours);
        return desk;
    }

    /** The plate of port 0 and season 0 gets a scrape at each time: the one petal moves. */
    static WindRoses withScrapes(int scrapes) {
        WindRoses desk = withWind(0, 0, 0, 5, 1);
        desk.engrave(0, 0);
        moveWind(desk, scrapes);
        return desk;
    }

    static void moveWind(WindRoses desk, int times) {
        for (int i = 0; i < times; i++) {
            desk.turn(0, 0, 1);
            desk.engrave(0, 0);
        }
    }

    static WindRoses withText(String text) {
        WindRoses desk = new WindRoses();
        Checks.write(desk, text);
        return desk;
    }

    static int logAll(String text) {
        return withText(text).logAll();
    }
}

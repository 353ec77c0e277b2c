/** Gardens that tests begin with, and runs of calls that many of them need. */
final class Plots {
    private Plots() {
    }

    /** A CAN at each place; the places are told as x, y, x, y and so on. */
    static RainCans at(int... places) {
        RainCans x = new RainCans();
        for (int n = 0; n + 1 < places.length; n += 2) {
            x.can(places[n], places[n + 1]);
        }
        return x;
    }

    /** RAW of a CAN on the DAYS from one on. */
    static void read(RainCans x, int can, int from, int... readings) {
        for (int n = 0; n < readings.length; n++) {
            x.raw(can, from + n, readings[n]);
        }
    }

    static void say(RainCans x, String text) {
        for (char sign : text.toCharArray()) {
            x.say(sign);
        }
    }

    /** What note() answers to a text; signs that were there go. */
    static int note(RainCans x, int can, String text) {
        x.wipe();
        say(x, text);
        return x.note(can);
    }

    /** 91 calls: three CANS; something of all there is, nothing of it full; IMAGE 0 is kept, 1 is not. */
    static RainCans busy() {
        RainCans x = at(3, 3, 5, 4, 4, 9);
        for (int can = 0; can < 3; can++) {
            for (int day = 0; day < 14; day++) {
                x.raw(can, day, (day * day * 7 + can * 13 + day * can) % 60);
            }
        }
        x.raw(1, 27, 45);
        note(x, 2, "x3;s5-6;l9");
        x.miss(0, 1, 3);
        x.miss(2, 2, 9);
        x.wind(4, 1);
        x.wind(13, 2);
        x.fix(0, 2, 33);
        x.image(0);
        x.fix(1, 2, -1);
        x.fix(0, 2, 44);
        x.raw(0, 20, 7);
        note(x, 1, "l12-13");
        x.radar(2, 6, 6, 30, 90);
        x.radar(27, 0, 20, 5, 6);
        x.set(0, 8);
        x.set(1, 6);
        x.set(2, 7);
        x.set(3, 2);
        say(x, "x1;q");
        return x;
    }

    /** 93 calls: a busy garden with one CAN more, where two RADARS can not both be right. */
    static RainCans torn() {
        RainCans x = busy();
        x.can(0, 20);
        x.radar(27, 0, 20, 200, 300);
        return x;
    }

    /** 173 calls: six CANS, 20 FIXES, 40 signs that name a DAY twice, six RADARS; IMAGE 0 is kept, 1 is not. */
    static RainCans full() {
        RainCans x = at(0, 0, 4, 4, 8, 3, 3, 8, 20, 20, 19, 18);
        for (int can = 0; can < 6; can++) {
            for (int day = 0; day < 12; day++) {
                x.raw(can, day, (day * 31 + can * 17) % 50);
            }
        }
        note(x, 4, "s3-5;x7");
        for (int n = 0; n < 20; n++) {
            x.fix(n % 6, n, 5 * n);
        }
        for (int n = 0; n < 6; n++) {
            x.radar(n, 3 * n, 20 - n, 10, 20 + n);
        }
        x.wind(0, 2);
        x.miss(5, 2, 4);
        x.image(0);
        x.set(1, 0);
        x.raw(3, 27, 12);
        say(x, "x0;x1;x2;x3;x4;x5;x6;x7;x8;x9;x10;x11;x1");
        return x;
    }
}

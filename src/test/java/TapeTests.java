/** Promises 1 to 3: a new object, feed, end. */
public final class TapeTests {
    public static void main(String[] args) {
        newObject();
        feedAndEnd();
        Due.leave();
    }

    private static void newObject() {
        LureTown x = new LureTown();
        int[] due = {0, 0, 0, 0, 0, -1, 0, 0, 0, 0, 0, 0, 0, 0};
        for (int what = 0; what < due.length; what++) {
            Due.is("count(" + what + ")", x.count(what), due[what]);
        }
        Due.is("count(-1)", x.count(-1), -1);
        Due.is("count(14)", x.count(14), -1);
        Due.is("step", x.step(), -1);
        Due.is("ways", x.ways(0), -1);
        Due.is("lure", x.lure(0, 0), -1);
        Due.is("walker", x.walker(0, 0), -1);
        Due.is("set", x.set(0, 0), -1);
        Due.is("move", x.move(0, 0), -1);
        Due.is("bait", x.bait(0, 0), -1);
        Due.is("calm", x.calm(0, 0), -1);
        Due.is("undo", x.undo(), -1);
        Due.is("ahead", x.ahead(0, 0, 2), -1);
        Due.is("had", x.had(0, 0), -1);
        Due.is("first", x.first(0), -1);
        Due.is("far", x.far(0), -1);
        Due.is("safe", x.safe(0), -1);
        Due.is("stuck", x.stuck(0), -1);
        Due.is("best", x.best(0, 1, 0), -1);
        Due.is("kind", x.kind(0, 1, 0), -1);
        Due.is("cover", x.cover(0), -1);
        Due.is("hearts", x.hearts(0), -1);
        Due.is("waries", x.waries(0), -1);
        Due.is("rests", x.rests(0, 1, 1, 0), -1);
        Due.is("ring", x.ring(0), -1);
        Due.is("pence", x.pence(1, 0), -1);
        Due.is("note", x.note(0, 0, 0), -2);
        Due.is("note none", x.note(-1, 0, 0), 0);
        Due.is("ruled", x.ruled(0), -3);
        Due.is("look", x.look(0, 0), -1);
        Due.is("nights", x.nights(1, 1, 0, 0), -1);
        Due.is("force", x.force(0), -2);
        Due.is("force none", x.force(-1), -1);
        Due.is("back", x.back(0), -1);
    }

    private static void feedAndEnd() {
        LureTown x = new LureTown();
        Due.is("end(0)", x.end(0), 0);
        Due.is("end(1) of none", x.end(1), -1);
        for (int i = 1; i <= 20; i++) {
            Due.is("feed " + i, x.feed(0x746f776e, 0x20320000, 0, 0, 0), 20 * i);
        }
        Due.is("feed beyond", x.feed(0, 0, 0, 0, 0), -1);
        Due.is("tape", x.count(13), 400);
        Due.is("end(401)", x.end(401), -1);
        Due.is("end(-1)", x.end(-1), -1);
        Due.is("tape stays", x.count(13), 400);
        Due.is("end(381)", x.end(381), 381);
        Due.is("feed of too many", x.feed(0, 0, 0, 0, 0), -1);
        Due.is("end(380)", x.end(380), 380);
        Due.is("feed fits", x.feed(0, 0, 0, 0, 0), 400);
        Due.is("end(6)", x.end(6), 6);
        // the highest byte of a number comes first: the text is 'town 2'
        Due.is("town", x.town(), 0);
        Due.is("corners", x.count(0), 2);
        Due.is("tape is empty", x.count(13), 0);
        // bytes above 127 are kept, and stand nowhere
        x.feed(0x746f776e, 0x203280FF, 0, 0, 0);
        x.end(7);
        Due.is("a high byte", x.town(), Due.fault(6, 0));
    }
}

/** The promises of the document by number: ordinary inputs, edges that it names, wrong inputs. */
public final class PromiseTests {
    private static final int LOW = Start.LOW;
    private static final int HIGH = Start.HIGH;

    private PromiseTests() {
    }

    public static void main(String[] args) {
        newObject();
        member();
        circle();
        write();
        writeInOrderOfStatus();
        reply();
        seal();
        deliver();
        deliverBehindTheFirstMember();
        deliverLowestFirst();
        deliverWithinSharedCircles();
        sealedInOneOrder();
        deliverAll();
        deliverAllOfOneCircle();
        count();
        told();
        saved();
        circleTold();
        state();
        given();
        read();
        why();
        whyOfSealed();
        whyOfOrder();
        late();
        behind();
        past();
        chain();
        act();
        actWraps();
        trace();
        bare();
        slot();
        slotsFull();
        forgeSerial();
        forgeStored();
        forgeRows();
        forgeCopy();
        forgeRest();
        forgeWrong();
        status();
        Due.end("PromiseTests");
    }

    private static void newObject() {
        ReadingCircles x = new ReadingCircles();
        for (int what = 0; what < 4; what++) {
            Due.is("1: count(" + what + ")", x.count(what), 0);
        }
        Due.is("1: status()", x.status(), 0);
        Due.is("1: trace(0)", x.trace(0), -1);
        Due.refused("1: write(0, 0, 0)", x, x.write(0, 0, 0), 1);
        Due.is("1: late(0)", x.late(0), -1);
    }

    private static void member() {
        ReadingCircles x = new ReadingCircles();
        for (int i = 0; i < 8; i++) {
            Due.done("2: member()", x, x.member(), i);
        }
        Due.refused("2: member()", x, x.member(), 2);
        Due.is("2: count(0)", x.count(0), 8);
    }

    private static void circle() {
        ReadingCircles x = Start.of(3);
        int[] none = {0, 1, 4, 8, 9, 15, -1, LOW, LOW | 3, 1 << 8 | 3};
        for (int bits : none) {
            Due.refused("3: circle(" + bits + ")", x, x.circle(bits), 1);
        }
        int[] some = {7, 3, 6, 5, 3, 7};
        for (int i = 0; i < some.length; i++) {
            Due.done("3: circle(" + some[i] + ")", x, x.circle(some[i]), i);
        }
        Due.refused("3: circle(7) as seventh", x, x.circle(7), 2);
        Due.refused("3: circle(1) as seventh", x, x.circle(1), 1);
        Due.is("3: count(1)", x.count(1), 6);
        Due.is("3: circle(255) of eight", Start.of(8).circle(255), 0);
        Due.refused("3: circle(3) of none", x = new ReadingCircles(), x.circle(3), 1);
    }

    private static void write() {
        ReadingCircles x = Start.of(3, 3);
        Due.done("4: a Note", x, x.write(0, 0, 0), 0);
        Due.done("4: a View", x, x.write(1, 0, 4), 1);
        Due.done("4: a Flush", x, x.write(1, 0, 5), 2);
        for (int kind : new int[] {1, 2, 3, 6, -1, LOW, HIGH}) {
            Due.refused("4: kind " + kind, x, x.write(0, 0, kind), 1);
        }
        for (int wrong : new int[] {3, -1, LOW, HIGH}) {
            Due.refused("4: member " + wrong, x, x.write(wrong, 0, 0), 1);
            Due.refused("4: circle " + wrong, x, x.write(0, wrong, 0), 1);
        }
        Due.refused("4: not in it", x, x.write(2, 0, 0), 3);
        Due.is("4: count(2)", x.count(2), 3);
        Due.is("4: the writer gave it", x.state(0, 0), 3);
        Due.is("4: it is on the line", x.state(1, 0), 1);
    }

    private static void writeInOrderOfStatus() {
        ReadingCircles x = Start.of(3, 3);
        for (int i = 0; i < 99; i++) {
            x.write(0, 0, 0);
        }
        Due.done("4: the 100th", x, x.seal(0, 0, -1), 99);
        Due.is("4: an Order comes besides", x.count(2), 101);
        Due.refused("4: the 101st", x, x.write(0, 0, 0), 2);
        Due.refused("4: no room before not in it", x, x.write(2, 0, 0), 2);
        Due.refused("4: no such before no room", x, x.write(0, 0, 3), 1);
        Due.refused("5: no room", x, x.reply(0, 0, 0), 2);
        Due.refused("5: no such before no room", x, x.reply(0, 0, 101), 1);
        Due.refused("6: no room", x, x.seal(0, 0, -1), 2);
        Due.refused("6: no such before no room", x, x.seal(0, 1, -1), 1);
        Due.is("4: count(2)", x.count(2), 101);
    }

    private static void reply() {
        ReadingCircles x = Start.of(3, 7, 3);
        x.write(0, 0, 0);
        Due.done("5: to one's own", x, x.reply(0, 1, 0), 1);
        Due.is("5: kind", x.told(1, 0), 1);
        Due.is("5: answers", x.told(1, 4), 0);
        Due.refused("5: not given", x, x.reply(1, 0, 0), 3);
        x.deliver(0, 1);
        Due.done("5: given", x, x.reply(1, 1, 0), 2);
        Due.refused("5: not in the circle", x, x.reply(2, 1, 0), 3);
        for (int wrong : new int[] {3, -1, LOW, HIGH}) {
            Due.refused("5: letter " + wrong, x, x.reply(0, 0, wrong), 1);
            Due.refused("5: member " + wrong, x, x.reply(wrong, 0, 0), 1);
            Due.refused("5: circle " + wrong, x, x.reply(0, wrong, 0), 1);
        }
        x.seal(1, 0, -1);
        Due.done("5: written and not given", x, x.reply(1, 0, 3), 4);
        Due.is("5: waits behind the Sealed one", x.state(1, 4), 2);
    }

    private static void seal() {
        ReadingCircles x = Start.of(3, 6);
        Due.done("6: by the eldest", x, x.seal(1, 0, -1), 0);
        Due.is("6: kind", x.told(0, 0), 2);
        Due.is("6: answers none", x.told(0, 4), -1);
        Due.is("6: has its number at once", x.told(0, 5), 0);
        Due.is("6: its Order", x.told(1, 0), 3);
        Due.is("6: the Order names it", x.told(1, 4), 0);
        Due.is("6: the Order's serial", x.told(1, 3), 2);
        Due.is("6: the eldest gave the Order", x.state(1, 1), 3);
        Due.done("6: answers", x, x.seal(1, 0, 1), 2);
        Due.is("6: answers", x.told(2, 4), 1);
        Due.refused("6: answers what is not given", x, x.seal(2, 0, 0), 3);
        Due.refused("6: not in it", x, x.seal(0, 0, -1), 3);
        for (int wrong : new int[] {4, -2, LOW, HIGH}) {
            Due.refused("6: letter " + wrong, x, x.seal(1, 0, wrong), 1);
            Due.refused("6: member " + wrong, x, x.seal(wrong, 0, -1), 1);
            Due.refused("6: circle " + wrong, x, x.seal(1, wrong, -1), 1);
        }
        Due.done("6: by another", x, x.seal(2, 0, -1), 4);
        Due.is("6: by another: no number", x.told(4, 5), -1);
        Due.is("6: by another: held by it", x.state(2, 4), 2);
    }

    private static void deliver() {
        ReadingCircles x = Start.of(3, 7);
        x.write(0, 0, 0);
        x.write(0, 0, 0);
        x.write(0, 0, 0);
        Due.done("7: too early", x, x.deliver(2, 1), 0);
        Due.done("7: too early", x, x.deliver(1, 1), 0);
        Due.done("7: the first brings all", x, x.deliver(0, 1), 3);
        for (int i = 0; i < 3; i++) {
            Due.is("7: read(1, " + i + ")", x.read(1, i), i);
        }
        Due.refused("7: again", x, x.deliver(0, 1), 3);
        Due.refused("7: to its writer", x, x.deliver(0, 0), 3);
        for (int wrong : new int[] {3, -1, LOW, HIGH}) {
            Due.refused("7: letter " + wrong, x, x.deliver(wrong, 1), 1);
            Due.refused("7: member " + wrong, x, x.deliver(0, wrong), 1);
        }
        ReadingCircles y = Start.of(3, 3);
        y.write(0, 0, 0);
        Due.refused("7: outside the circle", y, y.deliver(0, 2), 3);
    }

    private static void deliverBehindTheFirstMember() {
        ReadingCircles x = Start.of(3, 7);
        x.write(0, 0, 0);
        x.deliver(0, 1);
        x.write(1, 0, 0);
        Due.is("7: behind a letter of member 0", x.deliver(1, 2), 0);
        Due.is("7: till that comes", x.deliver(0, 2), 2);
    }

    private static void deliverLowestFirst() {
        ReadingCircles x = Start.of(4, 15);
        x.write(3, 0, 0);
        x.deliver(0, 0);
        x.deliver(0, 1);
        x.write(0, 0, 0);
        x.write(1, 0, 0);
        x.deliver(2, 2);
        x.deliver(1, 2);
        Due.is("7: one brings two", x.deliver(0, 2), 3);
        Due.is("7: of those the lowest first, not the one that came first", x.read(2, 1), 1);
    }

    private static void deliverWithinSharedCircles() {
        ReadingCircles x = Start.of(3, 3, 6, 7);
        x.write(0, 0, 0);
        x.deliver(0, 1);
        x.write(1, 1, 0);
        Due.is("7: behind a letter of a circle that it is not in", x.deliver(1, 2), 1);
        x.write(2, 2, 0);
        x.deliver(2, 1);
        x.write(1, 0, 0);
        Due.is("7: behind a letter of another circle that it is in", x.deliver(3, 0), 0);
        Due.is("7: till that comes", x.deliver(2, 0), 2);
        Due.is("7: read(0, 1)", x.read(0, 1), 2);
        Due.is("7: read(0, 2)", x.read(0, 2), 3);
    }

    private static void sealedInOneOrder() {
        ReadingCircles x = Start.of(4, 15);
        x.seal(1, 0, -1);
        x.seal(2, 0, -1);
        Due.is("7: the eldest gives the Sealed one, then its Order", x.deliver(1, 0), 2);
        Due.is("7: and the other", x.deliver(0, 0), 2);
        Due.is("7: number of the first that the eldest gave", x.told(1, 5), 0);
        Due.is("7: number of the second", x.told(0, 5), 1);
        Due.is("7: Sealed alone", x.deliver(0, 3), 0);
        Due.is("7: second Order waits for the first by its serial", x.deliver(3, 3), 0);
        Due.is("7: Sealed alone", x.deliver(1, 3), 0);
        Due.is("7: the first Order brings all", x.deliver(2, 3), 4);
        int[] order = {2, 1, 3, 0};
        for (int i = 0; i < order.length; i++) {
            Due.is("7: read(3, " + i + ")", x.read(3, i), order[i]);
        }
        Due.is("7: the Orders come to the writer of the second", x.deliver(2, 1), 1);
        Due.is("7: who waits for the first number", x.deliver(3, 1), 1);
        Due.is("7: till it comes", x.deliver(1, 1), 2);
        ReadingCircles y = Start.of(3, 7);
        y.seal(0, 0, -1);
        Due.is("7: the eldest's own needs no Order", y.deliver(0, 2), 1);
    }

    private static void deliverAll() {
        ReadingCircles x = Start.of(3, 7);
        x.write(0, 0, 0);
        x.write(1, 0, 0);
        x.seal(2, 0, -1);
        Due.done("8: upward", x, x.deliverAll(0, 0), 8);
        Due.is("8: upward: read(2, 0)", x.read(2, 0), 0);
        Due.is("8: upward: read(2, 1)", x.read(2, 1), 1);
        Due.done("8: nothing more", x, x.deliverAll(0, 1), 0);
        ReadingCircles y = Start.of(3, 7);
        y.write(1, 0, 0);
        y.seal(2, 0, -1);
        Due.done("8: downward", y, y.deliverAll(0, 1), 6);
        int[][] orders = {{1, 2, 0}, {0, 2, 1}, {2, 1, 0}};
        for (int m = 0; m < 3; m++) {
            for (int i = 0; i < 3; i++) {
                Due.is("8: downward: read(" + m + ", " + i + ")", y.read(m, i), orders[m][i]);
            }
        }
        for (int wrong : new int[] {2, -1, LOW, HIGH}) {
            Due.refused("8: circle " + wrong, x, x.deliverAll(wrong, 0), 1);
            Due.refused("8: way " + wrong, x, x.deliverAll(0, wrong), 1);
        }
    }

    private static void deliverAllOfOneCircle() {
        ReadingCircles x = Start.of(3, 7, 3, 3);
        x.write(0, 1, 0);
        x.write(1, 0, 0);
        Due.done("8: of this circle alone", x, x.deliverAll(0, 0), 2);
        Due.is("8: the other's stays on the line", x.state(1, 0), 1);
        x.seal(1, 1, -1);
        x.write(1, 0, 0);
        Due.done("8: the Sealed one of another circle holds nothing back", x, x.deliverAll(0, 1), 2);
        Due.done("8: circle 1 with the Order that comes", x, x.deliverAll(1, 0), 3);
        Due.done("8: a circle without letters", x, x.deliverAll(2, 1), 0);
    }

    private static void count() {
        ReadingCircles x = Start.of(3, 7, 3);
        x.seal(0, 0, -1);
        x.act(0, 2, 1);
        Due.is("9: count(0)", x.count(0), 3);
        Due.is("9: count(1)", x.count(1), 2);
        Due.is("9: count(2)", x.count(2), 2);
        Due.is("9: count(3)", x.count(3), 6);
        for (int wrong : new int[] {4, -1, LOW, HIGH}) {
            Due.is("9: count(" + wrong + ")", x.count(wrong), -1);
        }
    }

    private static void told() {
        ReadingCircles x = Start.of(4, 3, 14, 6);
        x.write(0, 0, 0);
        x.deliver(0, 1);
        x.write(1, 1, 5);
        x.seal(1, 1, 0);
        int[] sealed = {2, 1, 1, 2, 0, 0, 7, 6};
        int[] order = {3, 1, 1, 3, 2, -1, 7, 0};
        for (int what = 0; what < 8; what++) {
            Due.is("10: told(2, " + what + ")", x.told(2, what), sealed[what]);
            Due.is("10: told(3, " + what + ")", x.told(3, what), order[what]);
        }
        for (int wrong : new int[] {-1, 8, LOW, HIGH}) {
            Due.is("10: what " + wrong, x.told(0, wrong), -1);
            Due.is("10: letter " + wrong, x.told(wrong, 0), -1);
        }
        Due.is("10: told(4, 3)", x.told(4, 3), -1);
    }

    private static void saved() {
        ReadingCircles x = Start.of(3, 7);
        x.write(0, 0, 0);
        Due.is("10: without an earlier one none is saved", x.told(0, 7), 0);
        x.circle(3);
        x.write(0, 0, 0);
        Due.is("10: a row that the earlier one lacks is not saved", x.told(1, 7), 2);
        Due.is("10: counts", x.told(1, 6), 5);
        Due.is("10: counts of one written before the circle was", x.told(0, 6), 3);
        x.write(0, 1, 0);
        Due.is("10: none earlier to this circle", x.told(2, 7), 0);
        x.seal(0, 0, -1);
        x.write(0, 0, 0);
        Due.is("10: Orders are passed over", x.told(5, 7), 4);
        x.write(1, 0, 0);
        x.deliver(6, 0);
        x.write(0, 0, 0);
        Due.is("10: two counts have changed", x.told(7, 7), 3);
    }

    private static void circleTold() {
        ReadingCircles x = Start.of(4, 12, 6);
        Due.is("11: bits", x.circleTold(0, 0), 12);
        Due.is("11: eldest", x.circleTold(0, 1), 2);
        Due.is("11: eldest", x.circleTold(1, 1), 1);
        Due.is("11: numbers", x.circleTold(0, 2), 0);
        Due.is("11: calm without letters", x.circleTold(0, 3), 1);
        x.seal(3, 0, -1);
        Due.is("11: no number yet", x.circleTold(0, 2), 0);
        Due.is("11: not calm", x.circleTold(0, 3), 0);
        x.deliver(0, 2);
        Due.is("11: a number", x.circleTold(0, 2), 1);
        Due.is("11: not calm while the Order is on the line", x.circleTold(0, 3), 0);
        Due.is("11: others are calm", x.circleTold(1, 3), 1);
        x.deliver(1, 3);
        Due.is("11: calm", x.circleTold(0, 3), 1);
        for (int wrong : new int[] {-1, 4, LOW, HIGH}) {
            Due.is("11: what " + wrong, x.circleTold(0, wrong), -1);
            Due.is("11: circle " + wrong, x.circleTold(wrong, 0), -1);
        }
        Due.is("11: circle 2", x.circleTold(2, 0), -1);
    }

    private static void state() {
        ReadingCircles x = Start.of(4, 7);
        x.write(0, 0, 0);
        x.write(0, 0, 0);
        x.deliver(1, 1);
        Due.is("12: outside", x.state(3, 0), 0);
        Due.is("12: on the line", x.state(2, 0), 1);
        Due.is("12: held", x.state(1, 1), 2);
        Due.is("12: given", x.state(0, 1), 3);
        for (int wrong : new int[] {-1, 4, LOW, HIGH}) {
            Due.is("12: member " + wrong, x.state(wrong, 0), -1);
            Due.is("12: letter " + wrong, x.state(0, wrong), -1);
        }
        Due.is("12: letter 2", x.state(3, 2), -1);
    }

    private static void given() {
        ReadingCircles x = Start.of(4, 7, 3);
        x.write(0, 0, 0);
        x.seal(0, 1, -1);
        x.deliver(0, 1);
        Due.is("13: its own", x.given(0, 0, 0), 1);
        Due.is("13: the Order too", x.given(0, 1, 0), 2);
        Due.is("13: another's", x.given(1, 0, 0), 1);
        Due.is("13: on the line", x.given(2, 0, 0), 0);
        Due.is("13: outside the circle", x.given(3, 0, 0), 0);
        Due.is("13: by one outside the circle", x.given(0, 1, 3), 0);
        for (int wrong : new int[] {-1, 4, LOW, HIGH}) {
            Due.is("13: r " + wrong, x.given(wrong, 0, 0), -1);
            Due.is("13: c " + wrong, x.given(0, wrong, 0), -1);
            Due.is("13: w " + wrong, x.given(0, 0, wrong), -1);
        }
        Due.is("13: c 2", x.given(0, 2, 0), -1);
    }

    private static void read() {
        ReadingCircles x = Start.of(2, 3);
        x.write(0, 0, 0);
        x.write(1, 0, 0);
        x.deliver(1, 0);
        x.write(0, 0, 0);
        x.deliver(2, 1);
        Due.is("14: none but its own yet", x.read(1, 1), -1);
        x.deliver(0, 1);
        int[] byOne = {1, 0, 2, -1};
        for (int i = 0; i < byOne.length; i++) {
            Due.is("14: read(0, " + i + ")", x.read(0, i), i < 3 ? i : -1);
            Due.is("14: read(1, " + i + ")", x.read(1, i), byOne[i]);
        }
        for (int wrong : new int[] {-1, 2, LOW, HIGH}) {
            Due.is("14: member " + wrong, x.read(wrong, 0), -1);
        }
        for (int wrong : new int[] {-1, 200, LOW, HIGH}) {
            Due.is("14: i " + wrong, x.read(0, wrong), -1);
        }
    }

    private static void why() {
        ReadingCircles x = Start.of(4, 15, 7);
        x.write(2, 1, 0);
        x.write(2, 1, 0);
        x.deliver(0, 0);
        x.deliver(1, 0);
        x.write(0, 0, 0);
        x.write(0, 0, 0);
        x.write(0, 0, 0);
        x.deliver(4, 1);
        Due.is("15: the writer's serial first: circle", x.why(1, 4, 0), 0);
        Due.is("15: member", x.why(1, 4, 1), 0);
        Due.is("15: how many", x.why(1, 4, 2), 2);
        x.deliver(2, 1);
        Due.is("15: then the other circle", x.why(1, 2, 0), 1);
        Due.is("15: member", x.why(1, 2, 1), 2);
        Due.is("15: how many", x.why(1, 2, 2), 2);
        x.deliver(0, 1);
        Due.is("15: one lacks", x.why(1, 2, 2), 1);
        for (int wrong : new int[] {-1, 3, LOW, HIGH}) {
            Due.is("15: what " + wrong, x.why(1, 2, wrong), -1);
        }
        for (int wrong : new int[] {-1, 5, LOW, HIGH}) {
            Due.is("15: letter " + wrong, x.why(1, wrong, 0), -1);
            Due.is("15: member " + wrong, x.why(wrong, 2, 0), -1);
        }
        Due.is("15: on the line", x.why(3, 2, 0), -1);
        Due.is("15: given", x.why(0, 2, 0), -1);
        Due.is("15: outside", x.why(3, 0, 0), -1);
        Due.is("15: circles that it is not in do not count", x.deliver(2, 3), 1);
    }

    private static void whyOfSealed() {
        ReadingCircles x = Start.of(4, 15);
        x.seal(1, 0, -1);
        Due.is("15: Sealed, no Order: circle", x.why(1, 0, 0), -2);
        Due.is("15: Sealed, no Order: member", x.why(1, 0, 1), -2);
        Due.is("15: Sealed, no Order", x.why(1, 0, 2), 0);
        x.seal(2, 0, -1);
        x.deliver(0, 0);
        x.deliver(1, 0);
        x.deliver(1, 3);
        Due.is("15: the Order and a lower number lack", x.why(3, 1, 2), 0);
        x.deliver(2, 3);
        x.deliver(3, 3);
        Due.is("15: a lower number lacks: circle", x.why(3, 1, 0), -2);
        Due.is("15: a lower number lacks", x.why(3, 1, 2), 1);
        Due.is("15: till it comes", x.deliver(0, 3), 2);
        ReadingCircles y = Start.of(3, 7);
        y.seal(1, 0, -1);
        y.seal(2, 0, -1);
        y.deliver(0, 0);
        y.deliver(1, 0);
        y.seal(0, 0, -1);
        y.deliver(4, 2);
        Due.is("15: the eldest's own: a count lacks first", y.why(2, 4, 1), 0);
    }

    /** An Order's clock is its Sealed one's, and its own writer's count there is not asked. */
    private static void whyOfOrder() {
        ReadingCircles x = Start.of(4, 15);
        x.write(3, 0, 0);
        x.deliver(0, 1);
        x.seal(1, 0, -1);
        x.deliver(0, 0);
        x.write(2, 0, 0);
        x.deliver(2, 0);
        x.deliver(1, 0);
        Due.is("15: the Order", x.told(3, 0), 3);
        Due.is("15: waits for what the Sealed one's writer had given", x.deliver(3, 2), 0);
        Due.is("15: circle", x.why(2, 3, 0), 0);
        Due.is("15: member", x.why(2, 3, 1), 3);
        Due.is("15: how many", x.why(2, 3, 2), 1);
        Due.is("15: not for what the eldest had given", x.deliver(3, 3), 1);
        Due.is("17: though it is behind that", x.behind(2, 3), 1);
        Due.is("7: the Order before its Sealed one", x.deliver(1, 3), 1);
    }

    private static void late() {
        ReadingCircles x = Start.of(3, 7, 3);
        Due.is("16: none", x.late(1), 0);
        x.write(0, 0, 0);
        x.seal(0, 1, -1);
        Due.is("16: with the Order", x.late(1), 3);
        Due.is("16: of its circles alone", x.late(2), 1);
        Due.is("16: not to the writer", x.late(0), 0);
        x.deliver(2, 1);
        Due.is("16: held is not late", x.late(1), 2);
        for (int wrong : new int[] {-1, 3, LOW, HIGH}) {
            Due.is("16: late(" + wrong + ")", x.late(wrong), -1);
        }
    }

    private static void behind() {
        ReadingCircles x = Start.of(4, 3, 6, 12);
        x.write(0, 0, 0);
        x.deliver(0, 1);
        x.write(1, 1, 0);
        x.deliver(1, 2);
        x.write(2, 2, 0);
        x.write(3, 2, 0);
        Due.is("17: direct", x.behind(0, 1), 1);
        Due.is("17: by way of another", x.behind(0, 2), 1);
        Due.is("17: not the other way", x.behind(2, 0), 0);
        Due.is("17: not itself", x.behind(1, 1), 0);
        Due.is("17: not given by its writer", x.behind(2, 3), 0);
        x.deliver(0, 1);
        x.seal(2, 1, -1);
        x.write(2, 2, 0);
        Due.is("17: written and not given", x.behind(4, 5), 1);
        x.deliver(4, 1);
        Due.is("17: an Order is behind its Sealed one", x.behind(4, 6), 1);
        for (int wrong : new int[] {-1, 7, LOW, HIGH}) {
            Due.is("17: a " + wrong, x.behind(wrong, 0), -1);
            Due.is("17: b " + wrong, x.behind(0, wrong), -1);
        }
    }

    private static void past() {
        ReadingCircles x = Start.of(3, 3, 6);
        x.write(0, 0, 0);
        x.write(0, 0, 0);
        x.deliver(0, 1);
        x.write(1, 1, 0);
        x.deliver(2, 2);
        x.write(2, 1, 0);
        Due.is("18: none", x.past(0), 0);
        Due.is("18: its own earlier one", x.past(1), 1);
        Due.is("18: one given", x.past(2), 1);
        Due.is("18: with what that is behind of", x.past(3), 2);
        for (int wrong : new int[] {-1, 4, LOW, HIGH}) {
            Due.is("18: past(" + wrong + ")", x.past(wrong), -1);
        }
        ReadingCircles y = Start.of(2, 3);
        for (int i = 0; i < 100; i++) {
            y.seal(0, 0, -1);
        }
        Due.is("18: all of two hundred", y.past(199), 199);
        Due.is("19: all of two hundred", y.chain(0, 199), 200);
    }

    private static void chain() {
        ReadingCircles x = Start.of(3, 7);
        x.write(0, 0, 0);
        x.write(1, 0, 0);
        x.write(1, 0, 0);
        x.deliver(0, 2);
        x.deliver(1, 2);
        x.deliver(2, 2);
        x.write(2, 0, 0);
        Due.is("19: one step", x.chain(0, 3), 2);
        Due.is("19: the longest", x.chain(1, 3), 3);
        Due.is("19: an end that was within an earlier row", x.chain(2, 3), 2);
        Due.is("19: not behind", x.chain(0, 1), 0);
        Due.is("19: not behind itself", x.chain(2, 2), 0);
        Due.is("19: not the other way", x.chain(3, 1), 0);
        for (int wrong : new int[] {-1, 4, LOW, HIGH}) {
            Due.is("19: a " + wrong, x.chain(wrong, 0), -1);
            Due.is("19: b " + wrong, x.chain(0, wrong), -1);
        }
    }

    private static void act() {
        ReadingCircles x = Start.withAllKinds();
        int[][] want = {
            {11, 33, 44, 38},
            {24, 33, 57, 52 ^ 5},
            {27, 36, 63, 58 ^ 5},
            {15, 33, 48, 42},
            {13, 33, 87, 85},
            {14, 80, 24 + 150 + 1, 30 + 192 + 1 - 12 + 80},
        };
        for (int letter = 0; letter < 6; letter++) {
            Due.is("20: kind", x.told(letter, 0), letter);
            for (int act = 0; act < 4; act++) {
                Due.done("20: act(" + letter + ", " + act + ", 10)", x, x.act(letter, act, 10), want[letter][act]);
            }
        }
        for (int wrong : new int[] {-1, 6, LOW, HIGH}) {
            Due.refused("20: letter " + wrong, x, x.act(wrong, 0, 0), 1);
            Due.refused("20: act " + wrong, x, x.act(0, wrong, 0), 1);
        }
        Due.refused("20: act 4", x, x.act(0, 4, 0), 1);
        Due.is("20: a refused act leaves the trace", x.count(3), 14);
        ReadingCircles y = Start.of(2, 3);
        y.seal(1, 0, -1);
        Due.is("20: Sealed without a number: bear", y.act(0, 1, 10), 33 + 2 + 1);
        Due.is("20: Sealed without a number: give", y.act(0, 2, 10), 21 + 36 - 7);
        Due.is("20: it may answer -1", y.act(0, 0, -1), -1);
        Due.is("20: and that is done", y.status(), 0);
    }

    private static void actWraps() {
        ReadingCircles x = Start.withAllKinds();
        Due.done("20: age wraps", x, x.act(0, 0, HIGH), LOW);
        Due.done("20: bear wraps", x, x.act(0, 1, HIGH), HIGH * 3 + 3);
        Due.done("20: View's age wraps", x, x.act(4, 0, LOW), LOW - 1 + 5 - 1);
    }

    private static void trace() {
        ReadingCircles x = Start.withAllKinds();
        int[][] waits = {
            {13, 12, 10, 11},
            {21, 13, 12, 20, 10, 11},
            {21, 13, 31, 12, 20, 10, 30, 11},
            {13, 12, 40, 10, 11},
            {13, 50, 12, 40, 10, 11},
            {61, 13, 50, 12, 40, 10, 60, 11, 40, 10, 60, 11, 40, 10},
        };
        for (int letter = 5; letter >= 0; letter--) {
            x.act(letter, 3, 1);
            Due.is("21: count(3)", x.count(3), waits[letter].length);
            for (int i = 0; i < waits[letter].length; i++) {
                Due.is("21: letter " + letter + ", trace(" + i + ")", x.trace(i), waits[letter][i]);
            }
            Due.is("21: past its end", x.trace(waits[letter].length), -1);
        }
        for (int wrong : new int[] {-1, 60, LOW, HIGH}) {
            Due.is("21: trace(" + wrong + ")", x.trace(wrong), -1);
        }
    }

    private static void bare() {
        ReadingCircles x = Start.of(2, 3);
        x.write(0, 0, 0);
        x.write(0, 0, 0);
        Due.done("22: into a slot", x, x.bare(1, 0, 0), 1);
        Due.done("22: the last slot", x, x.bare(1, 39, 0), 1);
        Due.refused("22: a clock is there", x, x.bare(1, 0, 1), 3);
        x.deliver(1, 1);
        Due.is("22: the letter took the next slot", x.slot(1, 1), 2);
        Due.refused("22: a letter is there", x, x.bare(1, 1, 0), 3);
        for (int wrong : new int[] {-1, 40, LOW, HIGH}) {
            Due.refused("22: member " + wrong, x, x.bare(wrong, 0, 0), 1);
            Due.refused("22: slot " + wrong, x, x.bare(0, wrong, 0), 1);
            Due.refused("22: letter " + wrong, x, x.bare(0, 0, wrong), 1);
        }
        Due.refused("22: no such before not so", x, x.bare(1, 0, 2), 1);
    }

    private static void slot() {
        ReadingCircles x = Start.of(3, 7);
        x.write(0, 0, 0);
        x.write(0, 0, 4);
        x.write(0, 0, 5);
        x.reply(0, 0, 0);
        x.deliver(2, 1);
        x.deliver(3, 1);
        x.deliver(1, 1);
        int[] kinds = {7, 3, 6, 0};
        for (int i = 0; i < kinds.length; i++) {
            Due.is("23: slot(1, " + i + ")", x.slot(1, i), kinds[i]);
        }
        x.write(2, 0, 0);
        x.bare(1, 3, 0);
        Due.is("23: a bare clock", x.slot(1, 3), 1);
        x.deliver(0, 1);
        for (int i = 0; i < 3; i++) {
            Due.is("23: given, slot(1, " + i + ")", x.slot(1, i), 0);
        }
        Due.is("23: the clock stays", x.slot(1, 3), 1);
        for (int wrong : new int[] {-1, 40, LOW, HIGH}) {
            Due.is("23: member " + wrong, x.slot(wrong, 0), -1);
            Due.is("23: slot " + wrong, x.slot(0, wrong), -1);
        }
        Due.is("23: the last", x.slot(0, 39), 0);
    }

    private static void slotsFull() {
        ReadingCircles x = Start.of(3, 7);
        for (int i = 0; i < 42; i++) {
            x.write(0, 0, i == 41 ? 5 : 0);
        }
        x.write(2, 0, 4);
        for (int i = 1; i < 42; i++) {
            x.deliver(i, 1);
        }
        Due.is("23: the last slot is taken", x.slot(1, 39), 2);
        Due.is("23: held without a slot", x.state(1, 41), 2);
        Due.is("23: one that comes and goes without a slot", x.deliver(42, 1), 1);
        x.bare(2, 0, 0);
        Due.is("23: the first brings all", x.deliver(0, 1), 42);
        Due.is("23: all slots are free", x.slot(1, 39), 0);
    }

    private static void forgeSerial() {
        boolean[][] under = {
            {true, false, false, false, false, false},
            {true, true, false, false, false, false},
            {true, true, true, false, false, false},
            {true, false, false, true, false, false},
            {true, false, false, true, true, false},
            {true, false, false, true, true, true},
        };
        for (int kind = 0; kind < 6; kind++) {
            ReadingCircles x = Start.withSlotsOfAllKinds();
            Due.is("24: slot(1, " + kind + ")", x.slot(1, kind), 2 + kind);
            for (int n = -100; n <= 100; n++) {
                String call = "24: forge(1, " + kind + ", 0, " + n + ")";
                if (under[kind][Math.floorMod(n, 6)]) {
                    Due.done(call, x, x.forge(1, kind, 0, n), kind + 2);
                } else {
                    Due.refused(call, x, x.forge(1, kind, 0, n), 11);
                }
            }
        }
    }

    private static void forgeStored() {
        ReadingCircles x = Start.withSlotsOfAllKinds();
        for (int kind = 0; kind < 6; kind++) {
            if (kind == 1 || kind == 2) {
                Due.done("24: stored", x, x.forge(1, kind, 5, 0), 1);
            } else {
                Due.refused("24: stored", x, x.forge(1, kind, 5, 0), 14);
            }
        }
        Due.refused("24: nothing", x, x.forge(1, 9, 0, 0), 10);
        x.bare(1, 9, 0);
        Due.refused("24: a bare clock", x, x.forge(1, 9, 0, 0), 11);
        Due.refused("24: a bare clock stored", x, x.forge(1, 9, 5, 0), 11);
        Due.done("24: nothing stored", x, x.forge(1, 10, 5, 0), 0);
    }

    /** Slot 0 of member 1 has a letter besides. */
    private static ReadingCircles withClockAndLetter() {
        ReadingCircles x = Start.withBareClock();
        x.write(3, 1, 0);
        x.deliver(5, 1);
        return x;
    }

    private static void forgeRows() {
        ReadingCircles x = withClockAndLetter();
        int[] counts = {0, 0, 2, 1, 0, 0, 0, 0};
        for (int n = 0; n < 8; n++) {
            Due.done("24: count of member " + n, x, x.forge(0, 5, 1, n), counts[n]);
        }
        Due.done("24: sum of row 1", x, x.forge(0, 5, 2, 1), 3);
        Due.done("24: sum of row 2", x, x.forge(0, 5, 2, 2), 1);
        for (int n : new int[] {0, 3, 5}) {
            Due.refused("24: row " + n, x, x.forge(0, 5, 2, n), 10);
        }
        for (int n : new int[] {-1, 8, 100, -100}) {
            Due.refused("24: count of member " + n, x, x.forge(0, 5, 1, n), 12);
            Due.refused("24: row " + n, x, x.forge(0, 5, 2, n), 12);
            Due.refused("24: nothing, count of " + n, x, x.forge(0, 6, 1, n), 10);
            Due.refused("24: nothing, row " + n, x, x.forge(0, 6, 2, n), 10);
            Due.refused("24: a letter, count of " + n, x, x.forge(1, 0, 1, n), 11);
            Due.refused("24: a letter, row " + n, x, x.forge(1, 0, 2, n), 11);
        }
        Due.refused("24: row 6", x, x.forge(0, 5, 2, 6), 12);
        ReadingCircles y = Start.of(2, 3);
        y.write(0, 0, 0);
        y.write(0, 0, 0);
        y.bare(1, 0, 1);
        Due.done("24: the first row and cell", y, y.forge(1, 0, 1, 0), 1);
        Due.done("24: the sum has the first cell", y, y.forge(1, 0, 2, 0), 1);
        Due.refused("24: a letter", x, x.forge(1, 0, 1, 0), 11);
        Due.refused("24: nothing", x, x.forge(0, 6, 2, 0), 10);
    }

    private static void forgeCopy() {
        ReadingCircles x = withClockAndLetter();
        int[] sums = {0, 2, 3, 3, 3};
        for (int n = 0; n < sums.length; n++) {
            Due.done("24: copy of " + n, x, x.forge(0, 5, 4, n), sums[n]);
        }
        for (int n : new int[] {-1, 5, 6, 7, 100, -100}) {
            Due.refused("24: copy of " + n, x, x.forge(0, 5, 4, n), 12);
            Due.refused("24: nothing, copy of " + n, x, x.forge(0, 6, 4, n), 10);
            Due.refused("24: a letter, copy of " + n, x, x.forge(1, 0, 4, n), 11);
        }
    }

    private static void forgeRest() {
        for (int n = -100; n <= 100; n++) {
            ReadingCircles x = Start.of(1);
            if (n < 0) {
                Due.refused("24: row of " + n, x, x.forge(0, 0, 3, n), 13);
            } else {
                Due.done("24: row of " + n, x, x.forge(0, 0, 3, n), n);
            }
            if (n == 0) {
                Due.refused("24: 100 by 0", x, x.forge(0, 0, 6, 0), 15);
            } else {
                Due.done("24: 100 by " + n, x, x.forge(0, 0, 6, n), 100 / n);
            }
            if (n % 2 == 0) {
                Due.refused("24: failure " + n, x, x.forge(0, 0, 7, n), 10);
            } else {
                Due.done("24: failure " + n, x, x.forge(0, 0, 7, n), 1);
            }
        }
    }

    private static void forgeWrong() {
        ReadingCircles x = Start.of(1);
        for (int what = 0; what < 8; what++) {
            for (int wrong : new int[] {101, -101, LOW, HIGH}) {
                Due.refused("24: n " + wrong, x, x.forge(0, 0, what, wrong), 1);
            }
            for (int wrong : new int[] {-1, 40, LOW, HIGH}) {
                Due.refused("24: member " + wrong, x, x.forge(wrong, 0, what, 1), 1);
                Due.refused("24: slot " + wrong, x, x.forge(0, wrong, what, 1), 1);
            }
        }
        for (int wrong : new int[] {-1, 8, LOW, HIGH}) {
            Due.refused("24: what " + wrong, x, x.forge(0, 0, wrong, 0), 1);
        }
        Due.refused("24: member 1", x, x.forge(1, 0, 3, 1), 1);
        Due.done("24: the last slot", x, x.forge(0, 39, 3, 1), 1);
    }

    private static void status() {
        ReadingCircles x = Start.of(2, 3);
        x.write(0, 0, 0);
        x.deliver(0, 0);
        x.count(9);
        x.told(9, 9);
        x.circleTold(9, 9);
        x.state(9, 9);
        x.given(9, 9, 9);
        x.read(9, 9);
        x.why(9, 9, 9);
        x.late(9);
        x.behind(9, 9);
        x.past(9);
        x.chain(9, 9);
        x.trace(9);
        x.slot(9, 99);
        x.told(0, 0);
        Due.is("25: questions leave it", x.status(), 3);
        Due.is("25: asking leaves it", x.status(), 3);
        x.member();
        Due.is("25: done", x.status(), 0);
        x.past(99);
        Due.is("25: questions leave it", x.status(), 0);
    }
}

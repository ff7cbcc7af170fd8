import java.util.ArrayList;
import java.util.List;

/** What some 260 calls on an object answer, the last of them such that change it: to tell two objects apart. */
final class Look {
    private final TongueRights t;
    private final List<Long> seen = new ArrayList<>();
    private final int today;
    private final int lastBody;
    private final int lastGrant;

    Look(TongueRights t) {
        this.t = t;
        today = see(t.count(6));
        lastBody = see(t.count(0)) - 1;
        lastGrant = see(t.count(3)) - 1;
    }

    List<Long> all() {
        for (int what = 0; what <= 9; what++) {
            see(t.count(what));
        }
        bodies();
        grants();
        statements();
        shelves();
        see(t.fewest(0));
        see(t.fewest(1));
        for (int i = 0; i < 11; i++) {
            see(t.trace(i));
        }
        told();
        further();
        return seen;
    }

    private int see(long answer) {
        seen.add(answer);
        return (int) answer;
    }

    private void bodies() {
        for (int b = 0; b < 11; b++) {
            see(t.ofBody(b, 0));
            see(t.ofBody(b, 1));
        }
        for (int work = 4; work < 11; work++) {
            see(t.ofBody(work, 3));
            see(t.ofBody(work, 5));
            see(t.overlap(work, 1));
            see(t.holes(work, 0, today));
            see(t.holder(work, 0, 0, 3599));
            int comes = see(t.ofBody(work, 2));
            see(t.mustAsk(work, 0, Math.max(0, comes), -1));
        }
        see(t.ofBody(lastBody, 0));
    }

    private void grants() {
        for (int grant : new int[] {0, 1, 3, lastGrant}) {
            for (int what = grant == lastGrant ? 0 : 9; what <= 15; what++) {
                see(t.ofGrant(grant, what));
            }
            see(t.lapse(grant, 36000000, 1));
        }
        see(t.rate(4, 9, 50, 0));
        see(t.rate(4, 10, 50, 0));
    }

    private void statements() {
        for (int grant = 0; grant < 2; grant++) {
            int last = see(t.ofGrant(grant, 13)) - 1;
            for (int what = 0; what < 4; what++) {
                see(t.due(grant, today, what));
                see(t.ofState(grant, 0, today, what + 1));
                see(t.ofState(grant, last, today, what));
            }
        }
    }

    private void shelves() {
        for (int shelf = 0; shelf < 6; shelf++) {
            see(t.cast(shelf, 0));
            see(t.cast(shelf, 4));
            see(t.element(shelf, 0));
            see(t.element(shelf, 1));
            see(t.shift(shelf, 60, shelf, 60, 0));
        }
    }

    /** What was told and can be seen just by calls that end it. */
    private void told() {
        for (int what = 0; what < 10; what++) {
            see(t.set(what, 1));
        }
        see(t.term(9999));
        see(t.blank(-1));
        see(t.offer(64, 1));
        see(t.cover(4, 0, 0, 1));
        see(t.cover(4, 0, 0, 0));
        see(t.period(0, -1));
        see(t.wrong(60));
        see(t.fewest(0));
        see(t.taken(5, 0));
        see(t.taken(1999, 0));
        see(t.unask());
        see(t.steps(2));
        see(t.steps(lastGrant));
        see(t.rate(2, 0, 50, 0));
        see(t.rate(lastGrant, 0, 50, 0));
        see(t.count(7));
    }

    /** Calls that go on from what is there. */
    private void further() {
        see(t.dies(0));
        see(t.dies(9));
        for (int grant = 0; grant < 5; grant++) {
            see(t.pass(grant));
        }
        see(t.join(5, 7, 1));
        see(t.join(10, 4, 1));
        see(t.anew(0, 0, 1, 1));
        see(t.state(0, 1, 0, 1));
        see(t.pay(0));
        see(t.set(5, -1));
        see(t.set(6, -1));
        see(t.grant(4, 1));
        see(t.ends(0));
        see(t.ends(3));
        see(t.offer(1, 1));
        see(t.period(1, 1));
        see(t.ask(1, 0, 0));
        see(t.feed(1, 0));
        see(t.body(0));
        see(t.days(1));
    }
}

import com.sun.management.ThreadMXBean;
import java.lang.management.ManagementFactory;

/** All calls of one run live in one room: what an object needs is made with it, and its calls make nothing. */
public final class RoomTest {
    // Bytes; what the machine itself may need is left to the calls, less than a small object for each of them.
    private static final int MOST_OF_CONSTRUCTOR = 40_000;
    private static final int MOST_OF_CALLS = 1_000;
    private static final String LAW = "a:1|b:2|cd:@3|*:4/n?a,w,t30c?b,u";
    private static final String[] QUESTIONS = {"fault", "of", "part", "force", "open", "about", "meets", "why", "governs",
        "those", "gives", "route", "sum", "passage", "term", "whole", "taken", "brief", "caught", "read", "ways", "hangs",
        "mend", "all", "told", "image", "restore", "set", "wish", "wipe"};

    public static void main(String[] args) {
        ThreadMXBean bean = (ThreadMXBean) ManagementFactory.getThreadMXBean();
        fill(new BetweenLaws());
        bean.getCurrentThreadAllocatedBytes();
        long start = bean.getCurrentThreadAllocatedBytes();
        BetweenLaws x = new BetweenLaws();
        long made = bean.getCurrentThreadAllocatedBytes();
        fill(x);
        long filled = bean.getCurrentThreadAllocatedBytes();
        Checks.due("the constructor makes too much: " + (made - start), 1, made - start <= MOST_OF_CONSTRUCTOR ? 1 : 0);
        Checks.due("calls make too much: " + (filled - made), 1, filled - made <= MOST_OF_CALLS ? 1 : 0);
        Checks.close("RoomTest");
    }

    /** 8 LAWS, 8 PIECES, and each question a few times; all by numbers, so that the test makes nothing itself. */
    private static void fill(BetweenLaws x) {
        for (int n = 0; n < 8; n++) {
            for (int i = 0; i < LAW.length(); i++) x.say(LAW.charAt(i));
            x.say('0' + n);
            x.law(n, 100 - n);
            x.piece(10 * n, n);
        }
        for (int round = 0; round < 4; round++) {
            for (int q = 0; q < QUESTIONS.length; q++) Calls.answer(x, QUESTIONS[q], round % 2, 60 + round, round - 1);
            for (int q = 0; q < QUESTIONS.length; q++) Calls.answer(x, QUESTIONS[q], 90 + round, round % 2, 0);
        }
    }
}

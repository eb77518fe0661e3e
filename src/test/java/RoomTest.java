import java.lang.management.ManagementFactory;

/** The calls of a run share one room: an object takes little of it, and its calls nothing. */
public final class RoomTest {
  private static long sum = 0;

  private static long taken() {
    return ((com.sun.management.ThreadMXBean) ManagementFactory.getThreadMXBean())
        .getThreadAllocatedBytes(Thread.currentThread().getId());
  }

  /** Each call of the face, the dear ones with all that they can be given. */
  private static void calls(SheafVotes x) {
    for (int i = 0; i < 8; i++) {
      sum += x.farm(i % 7, 999 - i);
      sum += x.change(i, 3, i - 4) + x.of(i, 6) + x.left(i, 999) + x.when(i) + x.mostHands(i) + x.fewestHands(i);
      sum += x.lend(i) + x.kinds(i) + x.wetFor(i) + x.hold(i, i) + x.as(i, i) + x.ahead(i, 2, 60);
    }
    x.sheet(0, 32, 40);
    x.sheet(1, 32, 40);
    for (int i = 0; i < 40; i++) {
      x.write(0, i, 9999);
    }
    for (int i = 0; i < 8; i++) {
      sum += x.fits(0, i) + x.thinks(0, i);
    }
    sum += x.copy(0, 0, 1, 0, 40) + x.load(1) + x.judge(1) + x.weather(0, 7) + x.last() + x.first() + x.next();
    sum += x.lean() + x.answer(1) + x.image() + x.go(60) + x.now(5) + x.holder(60) + x.leans(60) + x.tie() + x.turns(3);
    sum += x.tell(99, 1) + x.voice() + x.miceFor(3, 1) + x.wins(200, 20) + x.cut(200, 20) + x.weathers(20) + x.odds(12, 1);
    sum += x.seed(5) + x.feed('w' << 16 | 'e' << 8 | 't', 3) + x.feed('9', 1) + x.text() + x.feed(0, 4) + x.wipe();
    sum += x.undo() + x.tear() + x.count(2) + x.status(-1) + x.status(9);
  }

  private static long room(int calls) {
    long before = taken();
    SheafVotes x = new SheafVotes();
    for (int i = 0; i < calls; i++) {
      calls(x);
    }
    return taken() - before;
  }

  public static void main(String[] args) {
    // What the machine itself takes when it first meets code is none of the program's.
    for (int i = 0; i < 50; i++) {
      room(1);
    }
    long alone = room(0);
    long used = room(20);
    System.out.println("an object takes " + alone + " bytes, with its calls " + used + " (" + sum + ")");
    Due.holds("an object is small", alone < 8000);
    Due.holds("calls take nothing", used - alone < 2000);
    Due.end();
  }
}

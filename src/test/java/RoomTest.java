import com.sun.management.ThreadMXBean;
import java.lang.management.ManagementFactory;
import java.lang.reflect.InvocationTargetException;
import java.lang.reflect.Method;
import java.lang.reflect.Modifier;
import java.util.ArrayList;
import java.util.Comparator;
import java.util.List;
import java.util.Random;

/** What a run makes stays small, and no call throws, whatever its arguments and the state. */
public final class RoomTest {
  private static final int[] WILD = {0, 0, 0, 0, 1, 1, 1, 2, 2, 3, 4, 5, 6, 7, 8, 9, 10, 11, 12, 13, 15, 16, 20, 31, 32, 33, 63,
      64, 100, 200, 201, 400, 401, 500, 501, 999, 1000, 2047, 2400, 2401, 4094, 4095, 4096, 9999, 10000, 65536, -1, -1, -2, -3,
      -9999, -10000, -19999, -20000, -20001, Integer.MAX_VALUE, Integer.MIN_VALUE, Integer.MIN_VALUE + 1, 1 << 30};

  public static void main(String[] args) throws Exception {
    room();
    wild();
    Check.close();
  }

  private static RingingCoins full() {
    RingingCoins x = new RingingCoins();
    StringBuilder mint = new StringBuilder();
    for (int i = 0; i < 12; i++) {
      mint.append("coin ").append(i * 97).append(' ').append(40 + i).append(' ').append(1 << i % 9).append(" 3;");
    }
    Check.due("twelve COINS", Check.mint(x, mint + "counter 0 0;counter 5 3;counter 9 1;counter 4 50;blur 3"), 12);
    Check.due("a long LAW", Check.law(x, "note note*many+loudest-coin*many*3+note%7*9-falls if many>1 and loudest>3 or not coin=5;"
        + "strength strength*2-damp+cracks if [[many<9] and 1=1]"), 0);
    Check.due("a plain LAW", Check.law(x, "note note-down"), 1);
    return x;
  }

  private static void room() {
    ThreadMXBean threads = (ThreadMXBean) ManagementFactory.getThreadMXBean();
    long thread = Thread.currentThread().getId();
    full();
    long before = threads.getThreadAllocatedBytes(thread);
    new RingingCoins();
    long made = threads.getThreadAllocatedBytes(thread) - before;
    Check.due("an object has at most 90,000 elements of 4 bytes: " + made, made < 360_000 ? 0 : made, 0);
    RingingCoins x = full();
    before = threads.getThreadAllocatedBytes(thread);
    int sum = 0;
    for (int i = 0; i < 60; i++) {
      sum += x.mistaken(i & 1, i & 3, 4095, 12, 0) + x.land(i & 1, i & 3, 200, 4) + x.bestCounter(i & 1, 0, 1, 999);
      sum += x.fits(i & 1, 0, 4095, 0) + x.pay(i & 1, 1, 0, 1, 77, 0) + x.year(500, 2) + x.image(3) + x.back(3);
      sum += x.payment(0, 1 << i % 12) + x.rounds(i & 1, 0) + x.mint() + x.law();
    }
    long used = threads.getThreadAllocatedBytes(thread) - before;
    Check.due("calls make nothing: " + sum, used < 4096 ? 0 : used, 0);
  }

  private static void wild() throws Exception {
    List<Method> face = new ArrayList<>();
    for (Method m : RingingCoins.class.getDeclaredMethods()) {
      if (Modifier.isPublic(m.getModifiers())) {
        face.add(m);
      }
    }
    face.sort(Comparator.comparing(Method::getName));
    Random random = new Random(1);
    for (int run = 0; run < 300; run++) {
      RingingCoins x = run % 3 == 0 ? new RingingCoins() : full();
      for (int call = 0; call < 400; call++) {
        Method m = face.get(random.nextInt(face.size()));
        if (m.getName().equals("mint") && random.nextInt(3) != 0) {
          continue;
        }
        Object[] values = new Object[m.getParameterCount()];
        for (int i = 0; i < values.length; i++) {
          values[i] = random.nextInt(20) == 0 ? random.nextInt() : WILD[random.nextInt(WILD.length)];
        }
        try {
          m.invoke(x, values);
          Check.due("", 0, 0);
        } catch (InvocationTargetException e) {
          Check.due(m.getName() + java.util.Arrays.toString(values) + " threw " + e.getCause() + " and", 1, 0);
        }
      }
    }
  }
}

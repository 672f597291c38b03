import java.util.PriorityQueue;
import java.util.Random;

/** Promises 22 and 23: codes of fewest flashes. */
public final class CodeTest {
    private static final Check CHECK = new Check("CodeTest");

    public static void main(String[] args) {
        code("", 0, "");
        code("flash 999;", 999, "1");
        code("flash 1 999;", 1000, "1 1");
        code("flash 5 3 2;", 15, "1 2 2");
        code("flash 2 3 5;", 15, "2 2 1");
        code("flash 1 1 1;", 5, "1 2 2");
        code("flash 1 1 1 1;", 8, "2 2 2 2");
        // 2 2 2 2 and 1 2 3 3 both take 12: the first one's least decides.
        code("flash 2 2 1 1;", 12, "1 2 3 3");
        code("flash 1 1 2 2;", 12, "2 2 2 2");
        code("flash 1 2 1 2;", 12, "2 2 2 2");
        code("flash 2 1 2 1;", 12, "1 3 2 3");
        code("flash 1 1 1 1 1;", 12, "2 2 2 3 3");
        code("flash 1 1 1 1 4;", 16, "3 3 3 3 1");
        code("flash 1 1 1 1 1 1 1 1 1 1 1 1;", 44, "3 3 3 3 4 4 4 4 4 4 4 4");
        code("flash 1 1 2 3 5 8 13 21 34 55 89 144;", 0, "11 11 10 9 8 7 6 5 4 3 2 1");
        fewestByHuffman();
        CHECK.end();
    }

    private static StraitGame told(String flash) {
        return Check.play("board 1 by 1;" + flash);
    }

    /** A sum of 0 stands for what the lengths take. */
    private static void code(String flash, int sum, String lengths) {
        StraitGame x = told(flash);
        String[] each = lengths.isEmpty() ? new String[0] : lengths.split(" ");
        String[] often = flash.replaceAll("[^0-9 ]", "").trim().split(" ");
        int taken = 0;
        for (int i = 0; i < each.length; i++) {
            CHECK.due("length(" + i + ") of " + flash, x.length(i), Integer.parseInt(each[i]));
            taken += Integer.parseInt(each[i]) * Integer.parseInt(often[i]);
        }
        CHECK.due("code() of " + flash, x.code(), sum == 0 ? taken : sum);
        CHECK.due("length beyond of " + flash, x.length(each.length), -1);
        CHECK.due("length(-1) of " + flash, x.length(-1), -1);
        CHECK.due("length(MIN) of " + flash, x.length(Integer.MIN_VALUE), -1);
        CHECK.due("about(8) of " + flash, x.about(8), each.length);
    }

    private static void fewestByHuffman() {
        Random random = new Random(7);
        for (int n = 0; n < 300; n++) {
            int many = 2 + random.nextInt(11);
            int most = n % 3 == 0 ? 999 : n % 3 == 1 ? 4 : 20;
            StringBuilder flash = new StringBuilder("flash");
            PriorityQueue<Integer> heap = new PriorityQueue<>();
            for (int i = 0; i < many; i++) {
                int often = 1 + random.nextInt(most);
                flash.append(' ').append(often);
                heap.add(often);
            }
            int fewest = 0;
            while (heap.size() > 1) {
                int both = heap.remove() + heap.remove();
                fewest += both;
                heap.add(both);
            }
            StraitGame x = told(flash + ";");
            CHECK.due("code() of " + flash, x.code(), fewest);
            int used = 0;
            for (int i = 0; i < many; i++) {
                used += 4096 >> x.length(i);
            }
            CHECK.due("beginnings of " + flash, used, 4096);
        }
    }
}

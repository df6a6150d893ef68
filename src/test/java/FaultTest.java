import java.util.Random;

/** Promise 4 by draws: FAULTS of right and of spoilt texts against a slow reader. */
public final class FaultTest {
    private static final String WAR_SIGNS = "mowsdvbnikxpg;;;0123456789 xyM:\u00e9";
    private static final String LAW_SIGNS = "dbniysy:;?!|&()[]=<>+-*/0123456789 x([!([!\u00e9";

    private FaultTest() {
    }

    public static void main(String[] args) {
        Random r = new Random(20261118);
        LastHome x = new LastHome();
        int right = 0;
        for (int i = 0; i < 6000; i++) {
            x = new LastHome();
            String war = i % 4 == 0 ? anyOf(r, WAR_SIGNS, 1 + r.nextInt(12)) : Drawn.spoilt(r, Drawn.war(r), WAR_SIGNS);
            right += compare(x, war, 0, SlowReader.warFault(war));
            String law = i % 4 == 0 ? "y:" + anyOf(r, LAW_SIGNS, 1 + r.nextInt(12)) : Drawn.spoilt(r, Drawn.law(r), LAW_SIGNS);
            right += compare(x, law, 1, SlowReader.lawFault(law));
        }
        Check.same("some of them are right", right > 300, true);
        Check.finish("FaultTest");
    }

    private static int compare(LastHome x, String text, int sort, int due) {
        Check.fed(x, text);
        Check.same("fault " + sort + " of '" + text + "'", x.fault(sort), due);
        return due == -1 ? 1 : 0;
    }

    private static String anyOf(Random r, String signs, int length) {
        StringBuilder all = new StringBuilder();
        for (int i = 0; i < length; i++) {
            all.append(signs.charAt(r.nextInt(signs.length())));
        }
        return all.toString();
    }
}

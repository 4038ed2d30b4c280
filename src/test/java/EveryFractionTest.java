/** SAMPLE and CHANGE for all numbers that they take, against the Model. */
public final class EveryFractionTest {
    public static void main(String[] args) {
        Model model = new Model();
        for (int n = 1; n <= 30; n++) {
            for (int f = 0; f <= n; f++) {
                for (int k = 0; k <= n; k++) {
                    AbbeyNotes x = new AbbeyNotes();
                    for (int j = 0; j <= k; j++) {
                        for (int part = 0; part <= 1; part++) {
                            String call = "sample " + n + " " + f + " " + k + " " + j + " " + part;
                            Check.due(call, x.sample(n, f, k, j, part), model.sample(n, f, k, j, part));
                        }
                    }
                }
            }
        }
        for (int v = 0; v <= 60; v++) {
            AbbeyNotes x = new AbbeyNotes();
            for (int m = 0; m <= 8; m++) {
                for (int t = 0; t <= 10; t++) {
                    for (int what = 0; what <= 3; what++) {
                        String call = "change " + v + " " + m + " " + t + " " + what;
                        Check.due(call, x.change(v, m, t, what / 2, what % 2), model.change(v, m, t, what / 2, what % 2));
                    }
                }
            }
        }
        Check.finish("EveryFractionTest");
    }
}

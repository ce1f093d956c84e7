/** The samples run, shrink and run again. */
final class SmokeTest {
    public static void main(String[] args) {
        for (int k = 0; k < 4; k++) {
            Shrinkforge x = new Shrinkforge();
            x.sample(k);
            Check.isTrue("right " + k, x.areRight());
            x.shrink();
            Check.isTrue("sound " + k, x.isSound());
            System.out.println(x.map() + " " + x.run(0, 1) + " " + x.runShrunk(0, 1) + " " + x.out());
        }
        Check.finish("SmokeTest");
    }
}

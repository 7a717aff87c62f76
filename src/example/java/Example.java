/** Measures a rectangle with the anchor outside of it, and inside. */
public final class Example {
    private Example() {
    }

    public static void main(String[] args) {
        PolarPlanimeter p = new PolarPlanimeter();
        String text = "300,300;700,300;700,600;300,600";
        for (int i = 0; i < text.length(); i++) {
            p.append(text.charAt(i));
        }
        System.out.println("first syntax error: " + p.firstError() + " of " + text.length() + " characters");
        System.out.println("corners: " + p.load());

        int run = p.run(0, false);
        System.out.println("run " + run + ": reading " + p.made(run, 3) + ", area " + p.made(run, 4));
        System.out.println("more runs: " + p.runAll());
        System.out.println("mean " + p.count(10) + ", outline " + p.count(6) + ", error " + p.error());

        p.setSlip(1, 30);
        run = p.run(0, true);
        System.out.println("run " + run + ": area " + p.made(run, 4) + ", left out: " + p.made(run, 5));
        System.out.println("saved states: " + p.undo() + ", runs: " + p.count(1));
        System.out.println("saved states: " + p.undo() + ", slip: " + p.corner(1, 2));

        p.setAnchor(300, 450);
        System.out.println("why not: " + p.why(0, false));
        try {
            p.run(0, false);
        } catch (IllegalStateException e) {
            System.out.println("refused for the reason " + p.reason());
        }

        p.setAnchor(500, 450);
        p.set(2, 20);
        System.out.println("least tracer arm: " + p.leastArm());
        System.out.println("sum with it: " + p.ifSet(0, false, 1, p.leastArm()));
        p.set(1, p.leastArm());
        p.runAll();
        System.out.println("winding " + p.count(7) + ", constant " + p.count(8) + ", mean " + p.count(10));
    }
}

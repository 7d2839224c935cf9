/** Texts that are rules or not, each on a new object. */
final class Texts {
    private Texts() {
    }

    static void allowed(String text) {
        error(text, RuleLists.NONE);
    }

    static void error(String text, int want) {
        RuleLists x = new RuleLists();
        Look.write(x, text);
        Check.due("errorPosition() of " + text, x.errorPosition(), want);
    }

    /** How many commands load() skips. */
    static int skippedOf(String text) {
        RuleLists x = new RuleLists();
        Look.write(x, text);
        return x.load();
    }

    /** The members of the last list that the commands make. */
    static void lastList(String commands, String members) {
        RuleLists x = Look.loaded("L" + commands);
        Check.due(commands, Look.members(x, x.lists() - 1), members);
        Check.due(commands + ", behind its end", x.memberByTesting(x.lists() - 1, members.split(" ").length), -1);
        Check.due(commands + ", empty", x.lastMember(x.lists() - 1) == RuleLists.NONE, members.isEmpty());
    }

    /**
     * A command by its letter and the ranges of its numbers, each with as many digits as its range's end. Every
     * character is tried at every digit's place, behind the least and behind the greatest numbers.
     */
    static void numbers(String letter, String ranges) {
        String least = letter;
        String greatest = letter;
        for (String range : ranges.substring(1).split("\\|")) {
            String[] ends = range.split(" to ");
            // A first number has three digits.
            String low = "0".repeat(ends[1].length() - ends[0].length()) + ends[0];
            places("L" + least, low, ends[1]);
            places("L" + greatest, low, ends[1]);
            least += low;
            greatest += ends[1];
        }
        allowed("L" + least);
        allowed("L" + greatest);
        error("L" + least + "0", least.length() + 1);
        error("L" + greatest + "1", greatest.length() + 1);
        allowed("L" + least + greatest + "d");
    }

    private static void places(String ahead, String low, String high) {
        int digits = low.length();
        for (int number = 0; number < Math.pow(10, digits); number += number < 20 || digits < 3 ? 1 : 7) {
            String text = String.valueOf(number);
            text = "0".repeat(digits - text.length()) + text;
            int wrong = firstWrongDigit(text, Integer.parseInt(low), Integer.parseInt(high));
            RuleLists x = new RuleLists();
            Look.write(x, ahead + text);
            int error = x.errorPosition();
            int end = ahead.length() + digits;
            boolean right = wrong < digits ? error == ahead.length() + wrong : error == end || error == RuleLists.NONE;
            Check.due("errorPosition() of " + ahead + text + " right", right, true);
        }
        for (int c = 0; c <= 255; c++) {
            if (c < '0' || c > '9') {
                for (int digit = 0; digit < digits; digit++) {
                    error(ahead + high.substring(0, digit) + (char) c, ahead.length() + digit);
                }
            }
        }
    }

    /** Tries all numbers that are allowed; answers the count of digits if the number is one of them. */
    private static int firstWrongDigit(String text, int low, int high) {
        int longest = 0;
        for (int number = low; number <= high; number++) {
            String allowed = String.valueOf(number);
            allowed = "0".repeat(text.length() - allowed.length()) + allowed;
            int same = 0;
            while (same < text.length() && text.charAt(same) == allowed.charAt(same)) {
                same++;
            }
            longest = Math.max(longest, same);
        }
        return longest;
    }
}

/-! words about hidden members of nest mates; the literals -/
def nestWords : List Cond := [
  .methodLinkNest RX6 9 yX1_init "GemMemos",
  .methodLinkNest RX1 11 yX3_init "GemMemos",
  .methodLinkNest RX1 20 yX5_init "GemMemos",
  .fieldLinkNest RX1 98 "GemMemos$Stones" "count" "I" "GemMemos",
  .fieldLinkNest RX1 156 "GemMemos$Stones" "weights" "[I" "GemMemos",
  .fieldLinkNest RX1 146 "GemMemos$Stones" "colours" "[I" "GemMemos",
  .fieldLinkNest RX1 149 "GemMemos$Stones" "clarities" "[I" "GemMemos",
  .fieldLinkNest RX1 123 "GemMemos$Stones" "owners" "[I" "GemMemos",
  .fieldLinkNest RX1 105 "GemMemos$Stones" "holders" "[I" "GemMemos",
  .fieldLinkNest RX1 108 "GemMemos$Stones" "memos" "[I" "GemMemos",
  .fieldLinkNest RX1 110 "GemMemos$Stones" "asked" "[I" "GemMemos",
  .fieldLinkNest RX1 142 "GemMemos$Stones" "soldFor" "[I" "GemMemos",
  .fieldLinkNest RX1 163 "GemMemos$Stones" "timesKept" "[I" "GemMemos",
  .methodLinkNest RX1 27 yX2_init "GemMemos",
  .fieldLinkNest RX1 202 "GemMemos$Memos" "count" "I" "GemMemos",
  .fieldLinkNest RX1 172 "GemMemos$Memos" "lenders" "[I" "GemMemos",
  .fieldLinkNest RX1 175 "GemMemos$Memos" "takers" "[I" "GemMemos",
  .fieldLinkNest RX1 178 "GemMemos$Memos" "lastDays" "[I" "GemMemos",
  .fieldLinkNest RX1 181 "GemMemos$Memos" "lent" "[I" "GemMemos",
  .fieldLinkNest RX1 184 "GemMemos$Memos" "kept" "[I" "GemMemos",
  .fieldLinkNest RX6 122 "GemMemos$Market" "prices" "LGemMemos$Prices;" "GemMemos",
  .fieldLinkNest RX4 52 "GemMemos$Market" "stones" "LGemMemos$Stones;" "GemMemos",
  .fieldLinkNest RX6 88 "GemMemos$Market" "stones" "LGemMemos$Stones;" "GemMemos",
  .fieldLinkNest RX6 108 "GemMemos$Market" "memos" "LGemMemos$Memos;" "GemMemos",
  .fieldLinkNest RX6 155 "GemMemos$Market" "time" "I" "GemMemos",
  .methodLinkNest RX0 22 yX1_init "GemMemos",
  .fieldLinkNest RX6 135 "GemMemos$History" "size" "I" "GemMemos",
  .methodLinkNest RX6 34 yX4_init "GemMemos",
  .fieldLinkNest RX6 139 "GemMemos$Script" "length" "I" "GemMemos",
  .methodLinkNest RX1 73 yX6_isLook "GemMemos",
  .methodLinkNest RX1 82 yX6_isGrade "GemMemos"]
def litIx : List Nat := [108, 110, 112, 114, 116, 118, 120]
def litTx : List String := ["lend", "back", "keep", "sell", "grade", "rate", "wait"]
def litLen : List Nat := [4, 4, 4, 4, 5, 4, 4]
def litByt : List (List Int32) := [[108, 101, 110, 100], [98, 97, 99, 107], [107, 101, 101, 112], [115, 101, 108, 108], [103, 114, 97, 100, 101], [114, 97, 116, 101], [119, 97, 105, 116]]

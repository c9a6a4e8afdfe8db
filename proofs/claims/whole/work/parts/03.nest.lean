theorem fk_0 {s : State} (h : ig_N s) : va_Nw (.fieldLinkNest "IgnoreRules$Matcher" 34 "IgnoreRules$RuleList" "text" "[C" "IgnoreRules") s := by
  have h1 := h.1 _ nf_0
  exact h1
theorem fk_1 {s : State} (h : ig_N s) : va_Nw (.fieldLinkNest "IgnoreRules" 106 "IgnoreRules$RuleList" "text" "[C" "IgnoreRules") s := by
  have h1 := h.1 _ nf_1
  exact h1
theorem fk_2 {s : State} (h : ig_N s) : va_Nw (.fieldLinkNest "IgnoreRules$Matcher" 28 "IgnoreRules$RuleList" "starts" "[I" "IgnoreRules") s := by
  have h1 := h.1 _ nf_2
  exact h1
theorem fk_3 {s : State} (h : ig_N s) : va_Nw (.fieldLinkNest "IgnoreRules$Matcher" 31 "IgnoreRules$RuleList" "ends" "[I" "IgnoreRules") s := by
  have h1 := h.1 _ nf_3
  exact h1
theorem fk_4 {s : State} (h : ig_N s) : va_Nw (.fieldLinkNest "IgnoreRules$Matcher" 18 "IgnoreRules$RuleList" "bits" "[I" "IgnoreRules") s := by
  have h1 := h.1 _ nf_4
  exact h1
theorem fk_5 {s : State} (h : ig_N s) : va_Nw (.fieldLinkNest "IgnoreRules" 61 "IgnoreRules$RuleList" "bits" "[I" "IgnoreRules") s := by
  have h1 := h.1 _ nf_5
  exact h1
theorem fk_6 {s : State} (h : ig_N s) : va_Nw (.fieldLinkNest "IgnoreRules" 69 "IgnoreRules$RuleList" "lines" "[I" "IgnoreRules") s := by
  have h1 := h.1 _ nf_6
  exact h1
theorem fk_7 {s : State} (h : ig_N s) : va_Nw (.fieldLinkNest "IgnoreRules" 54 "IgnoreRules$RuleList" "count" "I" "IgnoreRules") s := by
  have h1 := h.1 _ nf_7
  exact h1
theorem fk_8 {s : State} (h : ig_N s) : va_Nw (.fieldLinkNest "IgnoreRules$Matcher" 67 "IgnoreRules$Path" "bytes" "[C" "IgnoreRules") s := by
  have h1 := h.1 _ nf_8
  exact h1
theorem fk_9 {s : State} (h : ig_N s) : va_Nw (.fieldLinkNest "IgnoreRules$Matcher" 54 "IgnoreRules$Path" "starts" "[I" "IgnoreRules") s := by
  have h1 := h.1 _ nf_9
  exact h1
theorem fk_10 {s : State} (h : ig_N s) : va_Nw (.fieldLinkNest "IgnoreRules" 75 "IgnoreRules$Path" "count" "I" "IgnoreRules") s := by
  have h1 := h.1 _ nf_10
  exact h1
theorem nk_0 {s : State} (h : ig_N s) : va_Nw (.methodLinkNest "IgnoreRules" 15 y_RL_init "IgnoreRules") s := by
  have h1 := h.2 _ nm_0
  exact h1
theorem nk_1 {s : State} (h : ig_N s) : va_Nw (.methodLinkNest "IgnoreRules" 25 y_PA_init "IgnoreRules") s := by
  have h1 := h.2 _ nm_1
  exact h1
theorem nk_2 {s : State} (h : ig_N s) : va_Nw (.methodLinkNest "IgnoreRules" 32 y_MA_init "IgnoreRules") s := by
  have h1 := h.2 _ nm_2
  exact h1
theorem nk_3 {s : State} (h : ig_N s) : va_Nw (.methodLinkNest "IgnoreRules" 50 y_RL_load "IgnoreRules") s := by
  have h1 := h.2 _ nm_3
  exact h1
theorem nk_4 {s : State} (h : ig_N s) : va_Nw (.methodLinkNest "IgnoreRules$RuleList" 50 y_IT_areWhole "IgnoreRules") s := by
  have h1 := h.2 _ nm_4
  exact h1
theorem nk_5 {s : State} (h : ig_N s) : va_Nw (.methodLinkNest "IgnoreRules" 74 y_PA_load "IgnoreRules") s := by
  have h1 := h.2 _ nm_5
  exact h1
theorem nk_6 {s : State} (h : ig_N s) : va_Nw (.methodLinkNest "IgnoreRules" 65 y_RL_countNames "IgnoreRules") s := by
  have h1 := h.2 _ nm_6
  exact h1
theorem nk_7 {s : State} (h : ig_N s) : va_Nw (.methodLinkNest "IgnoreRules" 79 y_MA_ruleFits "IgnoreRules") s := by
  have h1 := h.2 _ nm_7
  exact h1
theorem nk_8 {s : State} (h : ig_N s) : va_Nw (.methodLinkNest "IgnoreRules$Matcher" 57 y_PA_lengthOf "IgnoreRules") s := by
  have h1 := h.2 _ nm_8
  exact h1
theorem nk_9 {s : State} (h : ig_N s) : va_Nw (.methodLinkNest "IgnoreRules$Matcher" 61 y_IT_lastByte "IgnoreRules") s := by
  have h1 := h.2 _ nm_9
  exact h1
theorem nk_10 {s : State} (h : ig_N s) : va_Nw (.methodLinkNest "IgnoreRules$Matcher" 70 y_IT_take "IgnoreRules") s := by
  have h1 := h.2 _ nm_10
  exact h1
theorem nk_11 {s : State} (h : ig_N s) : va_Nw (.methodLinkNest "IgnoreRules" 102 y_RL_nameStart "IgnoreRules") s := by
  have h1 := h.2 _ nm_11
  exact h1
theorem nk_12 {s : State} (h : ig_N s) : va_Nw (.methodLinkNest "IgnoreRules" 109 y_RL_nameEnd "IgnoreRules") s := by
  have h1 := h.2 _ nm_12
  exact h1
theorem nk_13 {s : State} (h : ig_N s) : va_Nw (.methodLinkNest "IgnoreRules" 112 y_MA_nameFits "IgnoreRules") s := by
  have h1 := h.2 _ nm_13
  exact h1

/-! my own kit over the worlds: one list of words for all methods (cw), a method's fixed things (mE), its world (mG), rows over these -/
def okw : Cond → Bool
  | .methodLinkNest .. => true
  | .fieldLinkNest .. => true
  | .arrayOver (.object _) => true
  | w => goodWord w
def cw : List Cond := lw_tbl.filter okw
theorem cw_of {w : Cond} (h : w ∈ lw_tbl) (ho : okw w = true) : w ∈ cw := List.mem_filter.mpr ⟨h, ho⟩
theorem cw_warm {args : Array Value} {s : State} (hts : ∀ w ∈ cw, w.before args s = true) : ∀ w ∈ cw, ∀ (a' : Array Value) (U : State), s.WarmedH U.vm → w.before a' U = true := by
  intro w hw a' U hW
  have hk := (List.mem_filter.mp hw).2
  have hb := hts w hw
  unfold okw at hk
  split at hk
  · exact va_Nw.use rfl (va_Nw.warmM hW (va_Nw.of rfl hb))
  · exact va_Nw.use rfl (va_Nw.warmF hW (va_Nw.of rfl hb))
  · exact va_AO.use (va_AO.moved hW.alike (va_AO.of hb))
  · exact word_at hW (good_of_word hk) hb
def cwd (y : MethodName) (bytes : ByteArray) (maxL : Nat) (ret : Option FieldType) : List Cond := .code y bytes maxL ret :: cw
theorem cwd_warm {args : Array Value} {s : State} (hts : ∀ w ∈ cw, w.before args s = true) {y : MethodName} {bytes : ByteArray} {maxL : Nat} {ret : Option FieldType} (hm : Cond.code y bytes maxL ret ∈ cw) : ∀ w ∈ cwd y bytes maxL ret, ∀ (a' : Array Value) (U : State), s.WarmedH U.vm → w.before a' U = true := by
  intro w hw
  rcases List.mem_cons.mp hw with rfl | hw
  · exact cw_warm hts _ hm
  · exact cw_warm hts _ hw
theorem mw_aBool : (Cond.arrayClass .boolean : Cond) ∈ cw := cw_of (List.mem_append_right _ (List.mem_append_right _ (List.mem_append_right _ (List.mem_append_right _ (List.mem_append_right _ (List.mem_append_left _ (List.mem_of_getElem? (i := 219) (by decide +kernel)))))))) (by decide +kernel)
theorem mw_aByte : (Cond.arrayClass .byte : Cond) ∈ cw := cw_of (List.mem_append_right _ (List.mem_append_left _ (List.mem_of_getElem? (i := 65) (by decide +kernel)))) (by decide +kernel)
theorem mw_aInt : (Cond.arrayClass .int : Cond) ∈ cw := cw_of (List.mem_append_right _ (List.mem_append_left _ (List.mem_of_getElem? (i := 133) (by decide +kernel)))) (by decide +kernel)
theorem mw_aLong : (Cond.arrayClass .long : Cond) ∈ cw := cw_of (List.mem_append_right _ (List.mem_append_left _ (List.mem_of_getElem? (i := 227) (by decide +kernel)))) (by decide +kernel)
theorem mw_cpIni : (Cond.initialized "java/lang/System" : Cond) ∈ cw := cw_of (List.mem_append_right _ (List.mem_append_left _ (List.mem_of_getElem? (i := 19) (by decide +kernel)))) (by decide +kernel)
theorem mw_cpNat : (Cond.native arraycopyName : Cond) ∈ cw := cw_of (List.mem_append_right _ (List.mem_append_right _ (List.mem_append_right _ (List.mem_append_left _ (List.mem_of_getElem? (i := 166) (by decide +kernel)))))) (by decide +kernel)
theorem mw_cpSt : (Cond.static arraycopyName : Cond) ∈ cw := cw_of (List.mem_append_right _ (List.mem_append_right _ (List.mem_append_right _ (List.mem_append_left _ (List.mem_of_getElem? (i := 165) (by decide +kernel)))))) (by decide +kernel)
theorem mw_lay_0_0 : (Cond.lays RX0 "LureTown$Acts" "size" "I" : Cond) ∈ cw := cw_of (List.mem_append_right _ (List.mem_append_right _ (List.mem_append_left _ (List.mem_of_getElem? (i := 86) (by decide +kernel))))) (by decide +kernel)
theorem mw_lay_0_1 : (Cond.lays RX0 "LureTown$Acts" "next" "I" : Cond) ∈ cw := cw_of (List.mem_append_right _ (List.mem_append_right _ (List.mem_append_left _ (List.mem_of_getElem? (i := 88) (by decide +kernel))))) (by decide +kernel)
theorem mw_lay_0_2 : (Cond.laysFinal RX0 "LureTown$Acts" "before" "[LLureTown$State;" : Cond) ∈ cw := cw_of (List.mem_append_right _ (List.mem_append_right _ (List.mem_append_left _ (List.mem_of_getElem? (i := 90) (by decide +kernel))))) (by decide +kernel)
theorem mw_lay_10_0 : (Cond.laysFinal RX10 "LureTown" "tape" "LLureTown$Tape;" : Cond) ∈ cw := cw_of (List.mem_append_right _ (List.mem_append_right _ (List.mem_append_left _ (List.mem_of_getElem? (i := 145) (by decide +kernel))))) (by decide +kernel)
theorem mw_lay_10_1 : (Cond.laysFinal RX10 "LureTown" "townReader" "LLureTown$TownReader;" : Cond) ∈ cw := cw_of (List.mem_append_right _ (List.mem_append_right _ (List.mem_append_left _ (List.mem_of_getElem? (i := 147) (by decide +kernel))))) (by decide +kernel)
theorem mw_lay_10_10 : (Cond.laysFinal RX10 "LureTown" "acts" "LLureTown$Acts;" : Cond) ∈ cw := cw_of (List.mem_append_right _ (List.mem_append_right _ (List.mem_append_left _ (List.mem_of_getElem? (i := 165) (by decide +kernel))))) (by decide +kernel)
theorem mw_lay_10_11 : (Cond.laysFinal RX10 "LureTown" "course" "LLureTown$Course;" : Cond) ∈ cw := cw_of (List.mem_append_right _ (List.mem_append_right _ (List.mem_append_left _ (List.mem_of_getElem? (i := 167) (by decide +kernel))))) (by decide +kernel)
theorem mw_lay_10_12 : (Cond.laysFinal RX10 "LureTown" "altered" "LLureTown$State;" : Cond) ∈ cw := cw_of (List.mem_append_right _ (List.mem_append_right _ (List.mem_append_left _ (List.mem_of_getElem? (i := 169) (by decide +kernel))))) (by decide +kernel)
theorem mw_lay_10_13 : (Cond.laysFinal RX10 "LureTown" "tally" "[I" : Cond) ∈ cw := cw_of (List.mem_append_right _ (List.mem_append_right _ (List.mem_append_left _ (List.mem_of_getElem? (i := 171) (by decide +kernel))))) (by decide +kernel)
theorem mw_lay_10_14 : (Cond.laysFinal RX10 "LureTown" "marks" "[I" : Cond) ∈ cw := cw_of (List.mem_append_right _ (List.mem_append_right _ (List.mem_append_left _ (List.mem_of_getElem? (i := 173) (by decide +kernel))))) (by decide +kernel)
theorem mw_lay_10_15 : (Cond.laysFinal RX10 "LureTown" "gains" "[I" : Cond) ∈ cw := cw_of (List.mem_append_right _ (List.mem_append_right _ (List.mem_append_left _ (List.mem_of_getElem? (i := 175) (by decide +kernel))))) (by decide +kernel)
theorem mw_lay_10_16 : (Cond.laysFinal RX10 "LureTown" "otherGains" "[I" : Cond) ∈ cw := cw_of (List.mem_append_right _ (List.mem_append_right _ (List.mem_append_left _ (List.mem_of_getElem? (i := 177) (by decide +kernel))))) (by decide +kernel)
theorem mw_lay_10_2 : (Cond.laysFinal RX10 "LureTown" "ruleReader" "LLureTown$RuleReader;" : Cond) ∈ cw := cw_of (List.mem_append_right _ (List.mem_append_right _ (List.mem_append_left _ (List.mem_of_getElem? (i := 149) (by decide +kernel))))) (by decide +kernel)
theorem mw_lay_10_3 : (Cond.laysFinal RX10 "LureTown" "draft" "LLureTown$Town;" : Cond) ∈ cw := cw_of (List.mem_append_right _ (List.mem_append_right _ (List.mem_append_left _ (List.mem_of_getElem? (i := 151) (by decide +kernel))))) (by decide +kernel)
theorem mw_lay_10_4 : (Cond.laysFinal RX10 "LureTown" "rules" "[LLureTown$Rule;" : Cond) ∈ cw := cw_of (List.mem_append_right _ (List.mem_append_right _ (List.mem_append_left _ (List.mem_of_getElem? (i := 153) (by decide +kernel))))) (by decide +kernel)
theorem mw_lay_10_5 : (Cond.lays RX10 "LureTown" "ruleCount" "I" : Cond) ∈ cw := cw_of (List.mem_append_right _ (List.mem_append_right _ (List.mem_append_left _ (List.mem_of_getElem? (i := 155) (by decide +kernel))))) (by decide +kernel)
theorem mw_lay_10_6 : (Cond.laysFinal RX10 "LureTown" "noRule" "LLureTown$Rule;" : Cond) ∈ cw := cw_of (List.mem_append_right _ (List.mem_append_right _ (List.mem_append_left _ (List.mem_of_getElem? (i := 157) (by decide +kernel))))) (by decide +kernel)
theorem mw_lay_10_7 : (Cond.laysFinal RX10 "LureTown" "now" "LLureTown$Moment;" : Cond) ∈ cw := cw_of (List.mem_append_right _ (List.mem_append_right _ (List.mem_append_left _ (List.mem_of_getElem? (i := 159) (by decide +kernel))))) (by decide +kernel)
theorem mw_lay_10_8 : (Cond.laysFinal RX10 "LureTown" "images" "[LLureTown$Moment;" : Cond) ∈ cw := cw_of (List.mem_append_right _ (List.mem_append_right _ (List.mem_append_left _ (List.mem_of_getElem? (i := 161) (by decide +kernel))))) (by decide +kernel)
theorem mw_lay_10_9 : (Cond.lays RX10 "LureTown" "imagesMade" "I" : Cond) ∈ cw := cw_of (List.mem_append_right _ (List.mem_append_right _ (List.mem_append_left _ (List.mem_of_getElem? (i := 163) (by decide +kernel))))) (by decide +kernel)
theorem mw_lay_11_0 : (Cond.laysFinal RX11 "LureTownModel" "tape" "[B" : Cond) ∈ cw := cw_of (List.mem_append_right _ (List.mem_append_right _ (List.mem_append_right _ (List.mem_append_right _ (List.mem_append_right _ (List.mem_append_left _ (List.mem_of_getElem? (i := 144) (by decide +kernel)))))))) (by decide +kernel)
theorem mw_lay_11_1 : (Cond.lays RX11 "LureTownModel" "taped" "I" : Cond) ∈ cw := cw_of (List.mem_append_right _ (List.mem_append_right _ (List.mem_append_right _ (List.mem_append_right _ (List.mem_append_right _ (List.mem_append_left _ (List.mem_of_getElem? (i := 146) (by decide +kernel)))))))) (by decide +kernel)
theorem mw_lay_11_10 : (Cond.lays RX11 "LureTownModel" "number" "I" : Cond) ∈ cw := cw_of (List.mem_append_right _ (List.mem_append_right _ (List.mem_append_right _ (List.mem_append_right _ (List.mem_append_right _ (List.mem_append_left _ (List.mem_of_getElem? (i := 164) (by decide +kernel)))))))) (by decide +kernel)
theorem mw_lay_11_11 : (Cond.lays RX11 "LureTownModel" "text" "I" : Cond) ∈ cw := cw_of (List.mem_append_right _ (List.mem_append_right _ (List.mem_append_right _ (List.mem_append_right _ (List.mem_append_right _ (List.mem_append_left _ (List.mem_of_getElem? (i := 166) (by decide +kernel)))))))) (by decide +kernel)
theorem mw_lay_11_12 : (Cond.lays RX11 "LureTownModel" "made" "I" : Cond) ∈ cw := cw_of (List.mem_append_right _ (List.mem_append_right _ (List.mem_append_right _ (List.mem_append_right _ (List.mem_append_right _ (List.mem_append_left _ (List.mem_of_getElem? (i := 168) (by decide +kernel)))))))) (by decide +kernel)
theorem mw_lay_11_13 : (Cond.lays RX11 "LureTownModel" "deep" "I" : Cond) ∈ cw := cw_of (List.mem_append_right _ (List.mem_append_right _ (List.mem_append_right _ (List.mem_append_right _ (List.mem_append_right _ (List.mem_append_left _ (List.mem_of_getElem? (i := 170) (by decide +kernel)))))))) (by decide +kernel)
theorem mw_lay_11_14 : (Cond.lays RX11 "LureTownModel" "lines" "I" : Cond) ∈ cw := cw_of (List.mem_append_right _ (List.mem_append_right _ (List.mem_append_right _ (List.mem_append_right _ (List.mem_append_right _ (List.mem_append_left _ (List.mem_of_getElem? (i := 172) (by decide +kernel)))))))) (by decide +kernel)
theorem mw_lay_11_15 : (Cond.laysFinal RX11 "LureTownModel" "open" "[I" : Cond) ∈ cw := cw_of (List.mem_append_right _ (List.mem_append_right _ (List.mem_append_right _ (List.mem_append_right _ (List.mem_append_right _ (List.mem_append_left _ (List.mem_of_getElem? (i := 174) (by decide +kernel)))))))) (by decide +kernel)
theorem mw_lay_11_16 : (Cond.lays RX11 "LureTownModel" "opened" "I" : Cond) ∈ cw := cw_of (List.mem_append_right _ (List.mem_append_right _ (List.mem_append_right _ (List.mem_append_right _ (List.mem_append_right _ (List.mem_append_left _ (List.mem_of_getElem? (i := 176) (by decide +kernel)))))))) (by decide +kernel)
theorem mw_lay_11_17 : (Cond.laysFinal RX11 "LureTownModel" "stack" "[J" : Cond) ∈ cw := cw_of (List.mem_append_right _ (List.mem_append_right _ (List.mem_append_right _ (List.mem_append_right _ (List.mem_append_right _ (List.mem_append_left _ (List.mem_of_getElem? (i := 178) (by decide +kernel)))))))) (by decide +kernel)
theorem mw_lay_11_18 : (Cond.lays RX11 "LureTownModel" "top" "I" : Cond) ∈ cw := cw_of (List.mem_append_right _ (List.mem_append_right _ (List.mem_append_right _ (List.mem_append_right _ (List.mem_append_right _ (List.mem_append_left _ (List.mem_of_getElem? (i := 180) (by decide +kernel)))))))) (by decide +kernel)
theorem mw_lay_11_19 : (Cond.laysFinal RX11 "LureTownModel" "word" "[J" : Cond) ∈ cw := cw_of (List.mem_append_right _ (List.mem_append_right _ (List.mem_append_right _ (List.mem_append_right _ (List.mem_append_right _ (List.mem_append_left _ (List.mem_of_getElem? (i := 182) (by decide +kernel)))))))) (by decide +kernel)
theorem mw_lay_11_2 : (Cond.lays RX11 "LureTownModel" "rules" "I" : Cond) ∈ cw := cw_of (List.mem_append_right _ (List.mem_append_right _ (List.mem_append_right _ (List.mem_append_right _ (List.mem_append_right _ (List.mem_append_left _ (List.mem_of_getElem? (i := 148) (by decide +kernel)))))))) (by decide +kernel)
theorem mw_lay_11_20 : (Cond.laysFinal RX11 "LureTownModel" "said" "[I" : Cond) ∈ cw := cw_of (List.mem_append_right _ (List.mem_append_right _ (List.mem_append_right _ (List.mem_append_right _ (List.mem_append_right _ (List.mem_append_left _ (List.mem_of_getElem? (i := 184) (by decide +kernel)))))))) (by decide +kernel)
theorem mw_lay_11_21 : (Cond.lays RX11 "LureTownModel" "force" "I" : Cond) ∈ cw := cw_of (List.mem_append_right _ (List.mem_append_right _ (List.mem_append_right _ (List.mem_append_right _ (List.mem_append_right _ (List.mem_append_left _ (List.mem_of_getElem? (i := 186) (by decide +kernel)))))))) (by decide +kernel)
theorem mw_lay_11_22 : (Cond.lays RX11 "LureTownModel" "x" "I" : Cond) ∈ cw := cw_of (List.mem_append_right _ (List.mem_append_right _ (List.mem_append_right _ (List.mem_append_right _ (List.mem_append_right _ (List.mem_append_left _ (List.mem_of_getElem? (i := 188) (by decide +kernel)))))))) (by decide +kernel)
theorem mw_lay_11_23 : (Cond.laysFinal RX11 "LureTownModel" "goesTo" "[I" : Cond) ∈ cw := cw_of (List.mem_append_right _ (List.mem_append_right _ (List.mem_append_right _ (List.mem_append_right _ (List.mem_append_right _ (List.mem_append_left _ (List.mem_of_getElem? (i := 190) (by decide +kernel)))))))) (by decide +kernel)
theorem mw_lay_11_24 : (Cond.laysFinal RX11 "LureTownModel" "hadBy" "[I" : Cond) ∈ cw := cw_of (List.mem_append_right _ (List.mem_append_right _ (List.mem_append_right _ (List.mem_append_right _ (List.mem_append_right _ (List.mem_append_left _ (List.mem_of_getElem? (i := 192) (by decide +kernel)))))))) (by decide +kernel)
theorem mw_lay_11_25 : (Cond.laysFinal RX11 "LureTownModel" "wasSaid" "[I" : Cond) ∈ cw := cw_of (List.mem_append_right _ (List.mem_append_right _ (List.mem_append_right _ (List.mem_append_right _ (List.mem_append_right _ (List.mem_append_left _ (List.mem_of_getElem? (i := 194) (by decide +kernel)))))))) (by decide +kernel)
theorem mw_lay_11_26 : (Cond.lays RX11 "LureTownModel" "undone" "I" : Cond) ∈ cw := cw_of (List.mem_append_right _ (List.mem_append_right _ (List.mem_append_right _ (List.mem_append_right _ (List.mem_append_right _ (List.mem_append_left _ (List.mem_of_getElem? (i := 196) (by decide +kernel)))))))) (by decide +kernel)
theorem mw_lay_11_27 : (Cond.laysFinal RX11 "LureTownModel" "kept" "[I" : Cond) ∈ cw := cw_of (List.mem_append_right _ (List.mem_append_right _ (List.mem_append_right _ (List.mem_append_right _ (List.mem_append_right _ (List.mem_append_left _ (List.mem_of_getElem? (i := 198) (by decide +kernel)))))))) (by decide +kernel)
theorem mw_lay_11_28 : (Cond.laysFinal RX11 "LureTownModel" "hasBy" "[I" : Cond) ∈ cw := cw_of (List.mem_append_right _ (List.mem_append_right _ (List.mem_append_right _ (List.mem_append_right _ (List.mem_append_right _ (List.mem_append_left _ (List.mem_of_getElem? (i := 200) (by decide +kernel)))))))) (by decide +kernel)
theorem mw_lay_11_29 : (Cond.laysFinal RX11 "LureTownModel" "standsThen" "[I" : Cond) ∈ cw := cw_of (List.mem_append_right _ (List.mem_append_right _ (List.mem_append_right _ (List.mem_append_right _ (List.mem_append_right _ (List.mem_append_left _ (List.mem_of_getElem? (i := 202) (by decide +kernel)))))))) (by decide +kernel)
theorem mw_lay_11_3 : (Cond.laysFinal RX11 "LureTownModel" "sign" "[I" : Cond) ∈ cw := cw_of (List.mem_append_right _ (List.mem_append_right _ (List.mem_append_right _ (List.mem_append_right _ (List.mem_append_right _ (List.mem_append_left _ (List.mem_of_getElem? (i := 150) (by decide +kernel)))))))) (by decide +kernel)
theorem mw_lay_11_30 : (Cond.laysFinal RX11 "LureTownModel" "isFit" "[Z" : Cond) ∈ cw := cw_of (List.mem_append_right _ (List.mem_append_right _ (List.mem_append_right _ (List.mem_append_right _ (List.mem_append_right _ (List.mem_append_left _ (List.mem_of_getElem? (i := 204) (by decide +kernel)))))))) (by decide +kernel)
theorem mw_lay_11_31 : (Cond.laysFinal RX11 "LureTownModel" "cornerThen" "[I" : Cond) ∈ cw := cw_of (List.mem_append_right _ (List.mem_append_right _ (List.mem_append_right _ (List.mem_append_right _ (List.mem_append_right _ (List.mem_append_left _ (List.mem_of_getElem? (i := 206) (by decide +kernel)))))))) (by decide +kernel)
theorem mw_lay_11_32 : (Cond.lays RX11 "LureTownModel" "drawX" "J" : Cond) ∈ cw := cw_of (List.mem_append_right _ (List.mem_append_right _ (List.mem_append_right _ (List.mem_append_right _ (List.mem_append_right _ (List.mem_append_left _ (List.mem_of_getElem? (i := 208) (by decide +kernel)))))))) (by decide +kernel)
theorem mw_lay_11_33 : (Cond.laysFinal RX11 "LureTownModel" "images" "[I" : Cond) ∈ cw := cw_of (List.mem_append_right _ (List.mem_append_right _ (List.mem_append_right _ (List.mem_append_right _ (List.mem_append_right _ (List.mem_append_left _ (List.mem_of_getElem? (i := 210) (by decide +kernel)))))))) (by decide +kernel)
theorem mw_lay_11_34 : (Cond.laysFinal RX11 "LureTownModel" "imageForce" "[I" : Cond) ∈ cw := cw_of (List.mem_append_right _ (List.mem_append_right _ (List.mem_append_right _ (List.mem_append_right _ (List.mem_append_right _ (List.mem_append_left _ (List.mem_of_getElem? (i := 212) (by decide +kernel)))))))) (by decide +kernel)
theorem mw_lay_11_35 : (Cond.laysFinal RX11 "LureTownModel" "imageX" "[I" : Cond) ∈ cw := cw_of (List.mem_append_right _ (List.mem_append_right _ (List.mem_append_right _ (List.mem_append_right _ (List.mem_append_right _ (List.mem_append_left _ (List.mem_of_getElem? (i := 214) (by decide +kernel)))))))) (by decide +kernel)
theorem mw_lay_11_36 : (Cond.laysFinal RX11 "LureTownModel" "isMade" "[Z" : Cond) ∈ cw := cw_of (List.mem_append_right _ (List.mem_append_right _ (List.mem_append_right _ (List.mem_append_right _ (List.mem_append_right _ (List.mem_append_left _ (List.mem_of_getElem? (i := 216) (by decide +kernel)))))))) (by decide +kernel)
theorem mw_lay_11_4 : (Cond.laysFinal RX11 "LureTownModel" "length" "[I" : Cond) ∈ cw := cw_of (List.mem_append_right _ (List.mem_append_right _ (List.mem_append_right _ (List.mem_append_right _ (List.mem_append_right _ (List.mem_append_left _ (List.mem_of_getElem? (i := 152) (by decide +kernel)))))))) (by decide +kernel)
theorem mw_lay_11_5 : (Cond.laysFinal RX11 "LureTownModel" "clause" "[I" : Cond) ∈ cw := cw_of (List.mem_append_right _ (List.mem_append_right _ (List.mem_append_right _ (List.mem_append_right _ (List.mem_append_right _ (List.mem_append_left _ (List.mem_of_getElem? (i := 154) (by decide +kernel)))))))) (by decide +kernel)
theorem mw_lay_11_6 : (Cond.laysFinal RX11 "LureTownModel" "clauses" "[I" : Cond) ∈ cw := cw_of (List.mem_append_right _ (List.mem_append_right _ (List.mem_append_right _ (List.mem_append_right _ (List.mem_append_right _ (List.mem_append_left _ (List.mem_of_getElem? (i := 156) (by decide +kernel)))))))) (by decide +kernel)
theorem mw_lay_11_7 : (Cond.laysFinal RX11 "LureTownModel" "read" "[I" : Cond) ∈ cw := cw_of (List.mem_append_right _ (List.mem_append_right _ (List.mem_append_right _ (List.mem_append_right _ (List.mem_append_right _ (List.mem_append_left _ (List.mem_of_getElem? (i := 158) (by decide +kernel)))))))) (by decide +kernel)
theorem mw_lay_11_8 : (Cond.lays RX11 "LureTownModel" "next" "I" : Cond) ∈ cw := cw_of (List.mem_append_right _ (List.mem_append_right _ (List.mem_append_right _ (List.mem_append_right _ (List.mem_append_right _ (List.mem_append_left _ (List.mem_of_getElem? (i := 160) (by decide +kernel)))))))) (by decide +kernel)
theorem mw_lay_11_9 : (Cond.lays RX11 "LureTownModel" "wrong" "I" : Cond) ∈ cw := cw_of (List.mem_append_right _ (List.mem_append_right _ (List.mem_append_right _ (List.mem_append_right _ (List.mem_append_right _ (List.mem_append_left _ (List.mem_of_getElem? (i := 162) (by decide +kernel)))))))) (by decide +kernel)
theorem mw_lay_1_0 : (Cond.laysFinal RX1 "LureTown$Course" "state" "LLureTown$State;" : Cond) ∈ cw := cw_of (List.mem_append_right _ (List.mem_append_right _ (List.mem_append_left _ (List.mem_of_getElem? (i := 113) (by decide +kernel))))) (by decide +kernel)
theorem mw_lay_1_1 : (Cond.laysFinal RX1 "LureTown$Course" "hadBy" "[I" : Cond) ∈ cw := cw_of (List.mem_append_right _ (List.mem_append_right _ (List.mem_append_left _ (List.mem_of_getElem? (i := 115) (by decide +kernel))))) (by decide +kernel)
theorem mw_lay_1_2 : (Cond.laysFinal RX1 "LureTown$Course" "goals" "[I" : Cond) ∈ cw := cw_of (List.mem_append_right _ (List.mem_append_right _ (List.mem_append_left _ (List.mem_of_getElem? (i := 117) (by decide +kernel))))) (by decide +kernel)
theorem mw_lay_1_3 : (Cond.laysFinal RX1 "LureTown$Course" "words" "[I" : Cond) ∈ cw := cw_of (List.mem_append_right _ (List.mem_append_right _ (List.mem_append_left _ (List.mem_of_getElem? (i := 119) (by decide +kernel))))) (by decide +kernel)
theorem mw_lay_1_4 : (Cond.lays RX1 "LureTown$Course" "town" "LLureTown$Town;" : Cond) ∈ cw := cw_of (List.mem_append_right _ (List.mem_append_right _ (List.mem_append_left _ (List.mem_of_getElem? (i := 121) (by decide +kernel))))) (by decide +kernel)
theorem mw_lay_1_5 : (Cond.lays RX1 "LureTown$Course" "rule" "LLureTown$Rule;" : Cond) ∈ cw := cw_of (List.mem_append_right _ (List.mem_append_right _ (List.mem_append_left _ (List.mem_of_getElem? (i := 123) (by decide +kernel))))) (by decide +kernel)
theorem mw_lay_2_0 : (Cond.laysFinal RX2 "LureTown$Moment" "place" "LLureTown$Town;" : Cond) ∈ cw := cw_of (List.mem_append_right _ (List.mem_append_right _ (List.mem_append_left _ (List.mem_of_getElem? (i := 61) (by decide +kernel))))) (by decide +kernel)
theorem mw_lay_2_1 : (Cond.laysFinal RX2 "LureTown$Moment" "state" "LLureTown$State;" : Cond) ∈ cw := cw_of (List.mem_append_right _ (List.mem_append_right _ (List.mem_append_left _ (List.mem_of_getElem? (i := 63) (by decide +kernel))))) (by decide +kernel)
theorem mw_lay_2_2 : (Cond.laysFinal RX2 "LureTown$Moment" "notes" "LLureTown$Notes;" : Cond) ∈ cw := cw_of (List.mem_append_right _ (List.mem_append_right _ (List.mem_append_left _ (List.mem_of_getElem? (i := 65) (by decide +kernel))))) (by decide +kernel)
theorem mw_lay_2_3 : (Cond.lays RX2 "LureTown$Moment" "inForce" "I" : Cond) ∈ cw := cw_of (List.mem_append_right _ (List.mem_append_right _ (List.mem_append_left _ (List.mem_of_getElem? (i := 67) (by decide +kernel))))) (by decide +kernel)
theorem mw_lay_2_4 : (Cond.lays RX2 "LureTown$Moment" "x" "I" : Cond) ∈ cw := cw_of (List.mem_append_right _ (List.mem_append_right _ (List.mem_append_left _ (List.mem_of_getElem? (i := 69) (by decide +kernel))))) (by decide +kernel)
theorem mw_lay_3_0 : (Cond.lays RX3 "LureTown$Notes" "size" "I" : Cond) ∈ cw := cw_of (List.mem_append_right _ (List.mem_append_right _ (List.mem_append_left _ (List.mem_of_getElem? (i := 42) (by decide +kernel))))) (by decide +kernel)
theorem mw_lay_3_1 : (Cond.laysFinal RX3 "LureTown$Notes" "behind" "[I" : Cond) ∈ cw := cw_of (List.mem_append_right _ (List.mem_append_right _ (List.mem_append_left _ (List.mem_of_getElem? (i := 44) (by decide +kernel))))) (by decide +kernel)
theorem mw_lay_3_2 : (Cond.laysFinal RX3 "LureTown$Notes" "walkers" "[I" : Cond) ∈ cw := cw_of (List.mem_append_right _ (List.mem_append_right _ (List.mem_append_left _ (List.mem_of_getElem? (i := 46) (by decide +kernel))))) (by decide +kernel)
theorem mw_lay_3_3 : (Cond.laysFinal RX3 "LureTown$Notes" "corners" "[I" : Cond) ∈ cw := cw_of (List.mem_append_right _ (List.mem_append_right _ (List.mem_append_left _ (List.mem_of_getElem? (i := 48) (by decide +kernel))))) (by decide +kernel)
theorem mw_lay_4_0 : (Cond.lays RX4 "LureTown$Rule" "clauseCount" "I" : Cond) ∈ cw := cw_of (List.mem_append_right _ (List.mem_append_left _ (List.mem_of_getElem? (i := 214) (by decide +kernel)))) (by decide +kernel)
theorem mw_lay_4_1 : (Cond.laysFinal RX4 "LureTown$Rule" "code" "[I" : Cond) ∈ cw := cw_of (List.mem_append_right _ (List.mem_append_left _ (List.mem_of_getElem? (i := 216) (by decide +kernel)))) (by decide +kernel)
theorem mw_lay_4_2 : (Cond.lays RX4 "LureTown$Rule" "codeSize" "I" : Cond) ∈ cw := cw_of (List.mem_append_right _ (List.mem_append_left _ (List.mem_of_getElem? (i := 218) (by decide +kernel)))) (by decide +kernel)
theorem mw_lay_4_3 : (Cond.laysFinal RX4 "LureTown$Rule" "sumFrom" "[I" : Cond) ∈ cw := cw_of (List.mem_append_right _ (List.mem_append_left _ (List.mem_of_getElem? (i := 220) (by decide +kernel)))) (by decide +kernel)
theorem mw_lay_4_4 : (Cond.laysFinal RX4 "LureTown$Rule" "testFrom" "[I" : Cond) ∈ cw := cw_of (List.mem_append_right _ (List.mem_append_left _ (List.mem_of_getElem? (i := 222) (by decide +kernel)))) (by decide +kernel)
theorem mw_lay_4_5 : (Cond.laysFinal RX4 "LureTown$Rule" "stack" "[J" : Cond) ∈ cw := cw_of (List.mem_append_right _ (List.mem_append_left _ (List.mem_of_getElem? (i := 224) (by decide +kernel)))) (by decide +kernel)
theorem mw_lay_5_0 : (Cond.lays RX5 "LureTown$RuleReader" "tape" "LLureTown$Tape;" : Cond) ∈ cw := cw_of (List.mem_append_right _ (List.mem_append_left _ (List.mem_of_getElem? (i := 237) (by decide +kernel)))) (by decide +kernel)
theorem mw_lay_5_1 : (Cond.laysFinal RX5 "LureTown$RuleReader" "held" "[I" : Cond) ∈ cw := cw_of (List.mem_append_right _ (List.mem_append_left _ (List.mem_of_getElem? (i := 239) (by decide +kernel)))) (by decide +kernel)
theorem mw_lay_5_2 : (Cond.lays RX5 "LureTown$RuleReader" "heldCount" "I" : Cond) ∈ cw := cw_of (List.mem_append_right _ (List.mem_append_right _ (List.mem_append_left _ (List.mem_of_getElem? (i := 1) (by decide +kernel))))) (by decide +kernel)
theorem mw_lay_5_3 : (Cond.lays RX5 "LureTown$RuleReader" "depth" "I" : Cond) ∈ cw := cw_of (List.mem_append_right _ (List.mem_append_right _ (List.mem_append_left _ (List.mem_of_getElem? (i := 3) (by decide +kernel))))) (by decide +kernel)
theorem mw_lay_5_4 : (Cond.lays RX5 "LureTown$RuleReader" "brackets" "I" : Cond) ∈ cw := cw_of (List.mem_append_right _ (List.mem_append_right _ (List.mem_append_left _ (List.mem_of_getElem? (i := 5) (by decide +kernel))))) (by decide +kernel)
theorem mw_lay_5_5 : (Cond.lays RX5 "LureTown$RuleReader" "parts" "I" : Cond) ∈ cw := cw_of (List.mem_append_right _ (List.mem_append_right _ (List.mem_append_left _ (List.mem_of_getElem? (i := 7) (by decide +kernel))))) (by decide +kernel)
theorem mw_lay_5_6 : (Cond.lays RX5 "LureTown$RuleReader" "want" "I" : Cond) ∈ cw := cw_of (List.mem_append_right _ (List.mem_append_right _ (List.mem_append_left _ (List.mem_of_getElem? (i := 9) (by decide +kernel))))) (by decide +kernel)
theorem mw_lay_5_7 : (Cond.lays RX5 "LureTown$RuleReader" "side" "I" : Cond) ∈ cw := cw_of (List.mem_append_right _ (List.mem_append_right _ (List.mem_append_left _ (List.mem_of_getElem? (i := 11) (by decide +kernel))))) (by decide +kernel)
theorem mw_lay_5_8 : (Cond.lays RX5 "LureTown$RuleReader" "rule" "LLureTown$Rule;" : Cond) ∈ cw := cw_of (List.mem_append_right _ (List.mem_append_right _ (List.mem_append_left _ (List.mem_of_getElem? (i := 13) (by decide +kernel))))) (by decide +kernel)
theorem mw_lay_6_0 : (Cond.laysFinal RX6 "LureTown$State" "walkerCorner" "[I" : Cond) ∈ cw := cw_of (List.mem_append_right _ (List.mem_append_left _ (List.mem_of_getElem? (i := 116) (by decide +kernel)))) (by decide +kernel)
theorem mw_lay_6_1 : (Cond.laysFinal RX6 "LureTown$State" "walkerHeart" "[I" : Cond) ∈ cw := cw_of (List.mem_append_right _ (List.mem_append_left _ (List.mem_of_getElem? (i := 118) (by decide +kernel)))) (by decide +kernel)
theorem mw_lay_6_2 : (Cond.laysFinal RX6 "LureTown$State" "walkerWary" "[I" : Cond) ∈ cw := cw_of (List.mem_append_right _ (List.mem_append_left _ (List.mem_of_getElem? (i := 120) (by decide +kernel)))) (by decide +kernel)
theorem mw_lay_6_3 : (Cond.laysFinal RX6 "LureTown$State" "walkerCharge" "[I" : Cond) ∈ cw := cw_of (List.mem_append_right _ (List.mem_append_left _ (List.mem_of_getElem? (i := 122) (by decide +kernel)))) (by decide +kernel)
theorem mw_lay_6_4 : (Cond.laysFinal RX6 "LureTown$State" "lureCorner" "[I" : Cond) ∈ cw := cw_of (List.mem_append_right _ (List.mem_append_left _ (List.mem_of_getElem? (i := 124) (by decide +kernel)))) (by decide +kernel)
theorem mw_lay_6_5 : (Cond.laysFinal RX6 "LureTown$State" "lureKind" "[I" : Cond) ∈ cw := cw_of (List.mem_append_right _ (List.mem_append_left _ (List.mem_of_getElem? (i := 126) (by decide +kernel)))) (by decide +kernel)
theorem mw_lay_6_6 : (Cond.lays RX6 "LureTown$State" "setBits" "I" : Cond) ∈ cw := cw_of (List.mem_append_right _ (List.mem_append_left _ (List.mem_of_getElem? (i := 128) (by decide +kernel)))) (by decide +kernel)
theorem mw_lay_6_7 : (Cond.lays RX6 "LureTown$State" "steps" "I" : Cond) ∈ cw := cw_of (List.mem_append_right _ (List.mem_append_left _ (List.mem_of_getElem? (i := 130) (by decide +kernel)))) (by decide +kernel)
theorem mw_lay_7_0 : (Cond.laysFinal RX7 "LureTown$Tape" "bytes" "[B" : Cond) ∈ cw := cw_of (List.mem_append_right _ (List.mem_append_left _ (List.mem_of_getElem? (i := 50) (by decide +kernel)))) (by decide +kernel)
theorem mw_lay_7_1 : (Cond.lays RX7 "LureTown$Tape" "size" "I" : Cond) ∈ cw := cw_of (List.mem_append_right _ (List.mem_append_left _ (List.mem_of_getElem? (i := 52) (by decide +kernel)))) (by decide +kernel)
theorem mw_lay_7_2 : (Cond.lays RX7 "LureTown$Tape" "fault" "I" : Cond) ∈ cw := cw_of (List.mem_append_right _ (List.mem_append_left _ (List.mem_of_getElem? (i := 54) (by decide +kernel)))) (by decide +kernel)
theorem mw_lay_7_3 : (Cond.lays RX7 "LureTown$Tape" "token" "I" : Cond) ∈ cw := cw_of (List.mem_append_right _ (List.mem_append_left _ (List.mem_of_getElem? (i := 56) (by decide +kernel)))) (by decide +kernel)
theorem mw_lay_7_4 : (Cond.lays RX7 "LureTown$Tape" "number" "I" : Cond) ∈ cw := cw_of (List.mem_append_right _ (List.mem_append_left _ (List.mem_of_getElem? (i := 58) (by decide +kernel)))) (by decide +kernel)
theorem mw_lay_7_5 : (Cond.lays RX7 "LureTown$Tape" "start" "I" : Cond) ∈ cw := cw_of (List.mem_append_right _ (List.mem_append_left _ (List.mem_of_getElem? (i := 60) (by decide +kernel)))) (by decide +kernel)
theorem mw_lay_7_6 : (Cond.lays RX7 "LureTown$Tape" "reached" "I" : Cond) ∈ cw := cw_of (List.mem_append_right _ (List.mem_append_left _ (List.mem_of_getElem? (i := 62) (by decide +kernel)))) (by decide +kernel)
theorem mw_lay_8_0 : (Cond.lays RX8 "LureTown$Town" "cornerCount" "I" : Cond) ∈ cw := cw_of (List.mem_append_right _ (List.mem_append_left _ (List.mem_of_getElem? (i := 161) (by decide +kernel)))) (by decide +kernel)
theorem mw_lay_8_1 : (Cond.lays RX8 "LureTown$Town" "wayCount" "I" : Cond) ∈ cw := cw_of (List.mem_append_right _ (List.mem_append_left _ (List.mem_of_getElem? (i := 163) (by decide +kernel)))) (by decide +kernel)
theorem mw_lay_8_2 : (Cond.lays RX8 "LureTown$Town" "lureCount" "I" : Cond) ∈ cw := cw_of (List.mem_append_right _ (List.mem_append_left _ (List.mem_of_getElem? (i := 165) (by decide +kernel)))) (by decide +kernel)
theorem mw_lay_8_3 : (Cond.lays RX8 "LureTown$Town" "walkerCount" "I" : Cond) ∈ cw := cw_of (List.mem_append_right _ (List.mem_append_left _ (List.mem_of_getElem? (i := 167) (by decide +kernel)))) (by decide +kernel)
theorem mw_lay_8_4 : (Cond.laysFinal RX8 "LureTown$Town" "joined" "[I" : Cond) ∈ cw := cw_of (List.mem_append_right _ (List.mem_append_left _ (List.mem_of_getElem? (i := 169) (by decide +kernel)))) (by decide +kernel)
theorem mw_lay_8_5 : (Cond.laysFinal RX8 "LureTown$Town" "lureGuile" "[I" : Cond) ∈ cw := cw_of (List.mem_append_right _ (List.mem_append_left _ (List.mem_of_getElem? (i := 171) (by decide +kernel)))) (by decide +kernel)
theorem mw_lay_8_6 : (Cond.laysFinal RX8 "LureTown$Town" "lureCharge" "[I" : Cond) ∈ cw := cw_of (List.mem_append_right _ (List.mem_append_left _ (List.mem_of_getElem? (i := 173) (by decide +kernel)))) (by decide +kernel)
theorem mw_lay_8_7 : (Cond.laysFinal RX8 "LureTown$Town" "walkerHome" "[I" : Cond) ∈ cw := cw_of (List.mem_append_right _ (List.mem_append_left _ (List.mem_of_getElem? (i := 175) (by decide +kernel)))) (by decide +kernel)
theorem mw_lay_8_8 : (Cond.laysFinal RX8 "LureTown$Town" "told" "LLureTown$State;" : Cond) ∈ cw := cw_of (List.mem_append_right _ (List.mem_append_left _ (List.mem_of_getElem? (i := 177) (by decide +kernel)))) (by decide +kernel)
theorem mw_lay_8_9 : (Cond.laysFinal RX8 "LureTown$Town" "apart" "[I" : Cond) ∈ cw := cw_of (List.mem_append_right _ (List.mem_append_left _ (List.mem_of_getElem? (i := 179) (by decide +kernel)))) (by decide +kernel)
theorem mw_lay_9_0 : (Cond.lays RX9 "LureTown$TownReader" "tape" "LLureTown$Tape;" : Cond) ∈ cw := cw_of (List.mem_append_right _ (List.mem_append_left _ (List.mem_of_getElem? (i := 185) (by decide +kernel)))) (by decide +kernel)
theorem mw_lay_9_1 : (Cond.lays RX9 "LureTown$TownReader" "town" "LLureTown$Town;" : Cond) ∈ cw := cw_of (List.mem_append_right _ (List.mem_append_left _ (List.mem_of_getElem? (i := 187) (by decide +kernel)))) (by decide +kernel)
theorem mw_lay_9_2 : (Cond.laysFinal RX9 "LureTown$TownReader" "numbers" "[I" : Cond) ∈ cw := cw_of (List.mem_append_right _ (List.mem_append_left _ (List.mem_of_getElem? (i := 189) (by decide +kernel)))) (by decide +kernel)
theorem mw_oCode : (Cond.code Lib.objectInit ⟨#[0xb1]⟩ 1 none : Cond) ∈ cw := cw_of (List.mem_append_right _ (List.mem_append_left _ (List.mem_of_getElem? (i := 28) rfl))) (by decide +kernel)
theorem mw_oInst : (Cond.instanceMethod Lib.objectInit : Cond) ∈ cw := cw_of (List.mem_append_right _ (List.mem_append_left _ (List.mem_of_getElem? (i := 27) (by decide +kernel)))) (by decide +kernel)
theorem i_X0 : ∀ w ∈ u_ws RX0 TX0 3, w ∈ cw := by
  intro w hw
  obtain ⟨k, hk, rfl⟩ := List.mem_map.mp hw
  have hk := List.mem_range.mp hk
  match k, hk with
  | 0, _ => exact mw_lay_0_0
  | 1, _ => exact mw_lay_0_1
  | 2, _ => exact mw_lay_0_2
  | j + 3, h => exact absurd h (by omega)
theorem i_X1 : ∀ w ∈ u_ws RX1 TX1 6, w ∈ cw := by
  intro w hw
  obtain ⟨k, hk, rfl⟩ := List.mem_map.mp hw
  have hk := List.mem_range.mp hk
  match k, hk with
  | 0, _ => exact mw_lay_1_0
  | 1, _ => exact mw_lay_1_1
  | 2, _ => exact mw_lay_1_2
  | 3, _ => exact mw_lay_1_3
  | 4, _ => exact mw_lay_1_4
  | 5, _ => exact mw_lay_1_5
  | j + 6, h => exact absurd h (by omega)
theorem i_X2 : ∀ w ∈ u_ws RX2 TX2 5, w ∈ cw := by
  intro w hw
  obtain ⟨k, hk, rfl⟩ := List.mem_map.mp hw
  have hk := List.mem_range.mp hk
  match k, hk with
  | 0, _ => exact mw_lay_2_0
  | 1, _ => exact mw_lay_2_1
  | 2, _ => exact mw_lay_2_2
  | 3, _ => exact mw_lay_2_3
  | 4, _ => exact mw_lay_2_4
  | j + 5, h => exact absurd h (by omega)
theorem i_X3 : ∀ w ∈ u_ws RX3 TX3 4, w ∈ cw := by
  intro w hw
  obtain ⟨k, hk, rfl⟩ := List.mem_map.mp hw
  have hk := List.mem_range.mp hk
  match k, hk with
  | 0, _ => exact mw_lay_3_0
  | 1, _ => exact mw_lay_3_1
  | 2, _ => exact mw_lay_3_2
  | 3, _ => exact mw_lay_3_3
  | j + 4, h => exact absurd h (by omega)
theorem i_X4 : ∀ w ∈ u_ws RX4 TX4 6, w ∈ cw := by
  intro w hw
  obtain ⟨k, hk, rfl⟩ := List.mem_map.mp hw
  have hk := List.mem_range.mp hk
  match k, hk with
  | 0, _ => exact mw_lay_4_0
  | 1, _ => exact mw_lay_4_1
  | 2, _ => exact mw_lay_4_2
  | 3, _ => exact mw_lay_4_3
  | 4, _ => exact mw_lay_4_4
  | 5, _ => exact mw_lay_4_5
  | j + 6, h => exact absurd h (by omega)
theorem i_X5 : ∀ w ∈ u_ws RX5 TX5 9, w ∈ cw := by
  intro w hw
  obtain ⟨k, hk, rfl⟩ := List.mem_map.mp hw
  have hk := List.mem_range.mp hk
  match k, hk with
  | 0, _ => exact mw_lay_5_0
  | 1, _ => exact mw_lay_5_1
  | 2, _ => exact mw_lay_5_2
  | 3, _ => exact mw_lay_5_3
  | 4, _ => exact mw_lay_5_4
  | 5, _ => exact mw_lay_5_5
  | 6, _ => exact mw_lay_5_6
  | 7, _ => exact mw_lay_5_7
  | 8, _ => exact mw_lay_5_8
  | j + 9, h => exact absurd h (by omega)
theorem i_X6 : ∀ w ∈ u_ws RX6 TX6 8, w ∈ cw := by
  intro w hw
  obtain ⟨k, hk, rfl⟩ := List.mem_map.mp hw
  have hk := List.mem_range.mp hk
  match k, hk with
  | 0, _ => exact mw_lay_6_0
  | 1, _ => exact mw_lay_6_1
  | 2, _ => exact mw_lay_6_2
  | 3, _ => exact mw_lay_6_3
  | 4, _ => exact mw_lay_6_4
  | 5, _ => exact mw_lay_6_5
  | 6, _ => exact mw_lay_6_6
  | 7, _ => exact mw_lay_6_7
  | j + 8, h => exact absurd h (by omega)
theorem i_X7 : ∀ w ∈ u_ws RX7 TX7 7, w ∈ cw := by
  intro w hw
  obtain ⟨k, hk, rfl⟩ := List.mem_map.mp hw
  have hk := List.mem_range.mp hk
  match k, hk with
  | 0, _ => exact mw_lay_7_0
  | 1, _ => exact mw_lay_7_1
  | 2, _ => exact mw_lay_7_2
  | 3, _ => exact mw_lay_7_3
  | 4, _ => exact mw_lay_7_4
  | 5, _ => exact mw_lay_7_5
  | 6, _ => exact mw_lay_7_6
  | j + 7, h => exact absurd h (by omega)
theorem i_X8 : ∀ w ∈ u_ws RX8 TX8 10, w ∈ cw := by
  intro w hw
  obtain ⟨k, hk, rfl⟩ := List.mem_map.mp hw
  have hk := List.mem_range.mp hk
  match k, hk with
  | 0, _ => exact mw_lay_8_0
  | 1, _ => exact mw_lay_8_1
  | 2, _ => exact mw_lay_8_2
  | 3, _ => exact mw_lay_8_3
  | 4, _ => exact mw_lay_8_4
  | 5, _ => exact mw_lay_8_5
  | 6, _ => exact mw_lay_8_6
  | 7, _ => exact mw_lay_8_7
  | 8, _ => exact mw_lay_8_8
  | 9, _ => exact mw_lay_8_9
  | j + 10, h => exact absurd h (by omega)
theorem i_X9 : ∀ w ∈ u_ws RX9 TX9 3, w ∈ cw := by
  intro w hw
  obtain ⟨k, hk, rfl⟩ := List.mem_map.mp hw
  have hk := List.mem_range.mp hk
  match k, hk with
  | 0, _ => exact mw_lay_9_0
  | 1, _ => exact mw_lay_9_1
  | 2, _ => exact mw_lay_9_2
  | j + 3, h => exact absurd h (by omega)
theorem i_X10 : ∀ w ∈ u_ws RX10 TX10 17, w ∈ cw := by
  intro w hw
  obtain ⟨k, hk, rfl⟩ := List.mem_map.mp hw
  have hk := List.mem_range.mp hk
  match k, hk with
  | 0, _ => exact mw_lay_10_0
  | 1, _ => exact mw_lay_10_1
  | 2, _ => exact mw_lay_10_2
  | 3, _ => exact mw_lay_10_3
  | 4, _ => exact mw_lay_10_4
  | 5, _ => exact mw_lay_10_5
  | 6, _ => exact mw_lay_10_6
  | 7, _ => exact mw_lay_10_7
  | 8, _ => exact mw_lay_10_8
  | 9, _ => exact mw_lay_10_9
  | 10, _ => exact mw_lay_10_10
  | 11, _ => exact mw_lay_10_11
  | 12, _ => exact mw_lay_10_12
  | 13, _ => exact mw_lay_10_13
  | 14, _ => exact mw_lay_10_14
  | 15, _ => exact mw_lay_10_15
  | 16, _ => exact mw_lay_10_16
  | j + 17, h => exact absurd h (by omega)
theorem i_X11 : ∀ w ∈ u_ws RX11 TX11 37, w ∈ cw := by
  intro w hw
  obtain ⟨k, hk, rfl⟩ := List.mem_map.mp hw
  have hk := List.mem_range.mp hk
  match k, hk with
  | 0, _ => exact mw_lay_11_0
  | 1, _ => exact mw_lay_11_1
  | 2, _ => exact mw_lay_11_2
  | 3, _ => exact mw_lay_11_3
  | 4, _ => exact mw_lay_11_4
  | 5, _ => exact mw_lay_11_5
  | 6, _ => exact mw_lay_11_6
  | 7, _ => exact mw_lay_11_7
  | 8, _ => exact mw_lay_11_8
  | 9, _ => exact mw_lay_11_9
  | 10, _ => exact mw_lay_11_10
  | 11, _ => exact mw_lay_11_11
  | 12, _ => exact mw_lay_11_12
  | 13, _ => exact mw_lay_11_13
  | 14, _ => exact mw_lay_11_14
  | 15, _ => exact mw_lay_11_15
  | 16, _ => exact mw_lay_11_16
  | 17, _ => exact mw_lay_11_17
  | 18, _ => exact mw_lay_11_18
  | 19, _ => exact mw_lay_11_19
  | 20, _ => exact mw_lay_11_20
  | 21, _ => exact mw_lay_11_21
  | 22, _ => exact mw_lay_11_22
  | 23, _ => exact mw_lay_11_23
  | 24, _ => exact mw_lay_11_24
  | 25, _ => exact mw_lay_11_25
  | 26, _ => exact mw_lay_11_26
  | 27, _ => exact mw_lay_11_27
  | 28, _ => exact mw_lay_11_28
  | 29, _ => exact mw_lay_11_29
  | 30, _ => exact mw_lay_11_30
  | 31, _ => exact mw_lay_11_31
  | 32, _ => exact mw_lay_11_32
  | 33, _ => exact mw_lay_11_33
  | 34, _ => exact mw_lay_11_34
  | 35, _ => exact mw_lay_11_35
  | 36, _ => exact mw_lay_11_36
  | j + 37, h => exact absurd h (by omega)
theorem cls_in {ci : Nat} {C : String} {T : u_T} {N : Nat} (hc : classes[ci]? = some (C, T, N)) : ∀ w ∈ u_ws C T N, w ∈ cw := by
  match ci, hc with
  | 0, hc => cases hc; exact i_X0
  | 1, hc => cases hc; exact i_X1
  | 2, hc => cases hc; exact i_X2
  | 3, hc => cases hc; exact i_X3
  | 4, hc => cases hc; exact i_X4
  | 5, hc => cases hc; exact i_X5
  | 6, hc => cases hc; exact i_X6
  | 7, hc => cases hc; exact i_X7
  | 8, hc => cases hc; exact i_X8
  | 9, hc => cases hc; exact i_X9
  | 10, hc => cases hc; exact i_X10
  | 11, hc => cases hc; exact i_X11
  | k + 12, hc => simp [classes] at hc

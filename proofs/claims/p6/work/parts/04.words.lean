set_option linter.all false
/-- the tables' words that keep: every contract is stated over them -/
def zT : List Cond := k2_sels lw_privs ++ tables_1.filter goodWord
theorem zT_in : ∀ w ∈ zT, w ∈ lw_tbl := fun _ h => (List.mem_append.mp h).elim (fun h => List.mem_append_left _ h) (fun h => List.mem_append_right _ (List.mem_filter.mp h).1)
theorem zT_good : ∀ w ∈ zT, goodWord w = true := fun w h => (List.mem_append.mp h).elim (fun h => by obtain ⟨q, -, rfl⟩ := List.mem_map.mp h; rfl) (fun h => (List.mem_filter.mp h).2)
theorem zT_ok : GoodIn zT zT := fun w h => ⟨h, good_of_word (zT_good w h)⟩
theorem z_hts {args : Array Value} {s : State} {w0 : Cond} (h : ∀ w ∈ w0 :: zT, w.before args s = true) : ∀ w ∈ zT, w.before args s = true := fun w q => h w (List.mem_cons_of_mem _ q)
theorem z_gI {c : Cond} (h : c ∈ zT) : GoodIn zT (c :: zT) := fun w q => (List.mem_cons.mp q).elim (fun e => by rw [e]; exact zT_ok c h) (fun q => zT_ok w q)
theorem z_gV {own C : String} {idx : Nat} {y : MethodName} {c : Cond} (h1 : Cond.methodLink own idx y ∈ zT) (h2 : Cond.instanceMethod y ∈ zT) (h3 : Cond.selects C y y ∈ zT) (h4 : Cond.initialized C ∈ zT) (h : c ∈ zT) : GoodIn zT (wsV own idx C y (c :: zT)) := fun w q => by
  rcases List.mem_append.mp q with q | q
  · rcases List.mem_cons.mp q with e | q
    · rw [e]; exact zT_ok _ h1
    · rcases List.mem_cons.mp q with e | q
      · rw [e]; exact zT_ok _ h2
      · rcases List.mem_cons.mp q with e | q
        · rw [e]; exact zT_ok _ h3
        · rw [List.mem_singleton.mp q]; exact zT_ok _ h4
  · exact z_gI h w q
theorem z_gS {own : String} {idx : Nat} {y : MethodName} {c : Cond} (h1 : Cond.methodLink own idx y ∈ zT) (h2 : Cond.static y ∈ zT) (h4 : Cond.initialized y.cls ∈ zT) (h : c ∈ zT) : GoodIn zT (va_wsS own idx y (c :: zT)) := fun w q => by
  rcases List.mem_append.mp q with q | q
  · rcases List.mem_cons.mp q with e | q
    · rw [e]; exact zT_ok _ h1
    · rcases List.mem_cons.mp q with e | q
      · rw [e]; exact zT_ok _ h2
      · rw [List.mem_singleton.mp q]; exact zT_ok _ h4
  · exact z_gI h w q
theorem zt_1 {w : Cond} (h : w ∈ tables_1_1) (g : goodWord w = true) : w ∈ zT := List.mem_append_right _ (List.mem_filter.mpr ⟨(List.mem_append_left _ h), g⟩)
theorem zt_2 {w : Cond} (h : w ∈ tables_1_2) (g : goodWord w = true) : w ∈ zT := List.mem_append_right _ (List.mem_filter.mpr ⟨(List.mem_append_right _ (List.mem_append_left _ h)), g⟩)
theorem zt_3 {w : Cond} (h : w ∈ tables_1_3) (g : goodWord w = true) : w ∈ zT := List.mem_append_right _ (List.mem_filter.mpr ⟨(List.mem_append_right _ (List.mem_append_right _ (List.mem_append_left _ h))), g⟩)
theorem zt_4 {w : Cond} (h : w ∈ tables_1_4) (g : goodWord w = true) : w ∈ zT := List.mem_append_right _ (List.mem_filter.mpr ⟨(List.mem_append_right _ (List.mem_append_right _ (List.mem_append_right _ (List.mem_append_left _ h)))), g⟩)
theorem zt_5 {w : Cond} (h : w ∈ tables_1_5) (g : goodWord w = true) : w ∈ zT := List.mem_append_right _ (List.mem_filter.mpr ⟨(List.mem_append_right _ (List.mem_append_right _ (List.mem_append_right _ (List.mem_append_right _ (List.mem_append_left _ h))))), g⟩)
theorem zt_6 {w : Cond} (h : w ∈ tables_1_6) (g : goodWord w = true) : w ∈ zT := List.mem_append_right _ (List.mem_filter.mpr ⟨(List.mem_append_right _ (List.mem_append_right _ (List.mem_append_right _ (List.mem_append_right _ (List.mem_append_right _ (List.mem_append_left _ h)))))), g⟩)
theorem zt_7 {w : Cond} (h : w ∈ tables_1_7) (g : goodWord w = true) : w ∈ zT := List.mem_append_right _ (List.mem_filter.mpr ⟨(List.mem_append_right _ (List.mem_append_right _ (List.mem_append_right _ (List.mem_append_right _ (List.mem_append_right _ (List.mem_append_right _ (List.mem_append_left _ h))))))), g⟩)
theorem zt_8 {w : Cond} (h : w ∈ tables_1_8) (g : goodWord w = true) : w ∈ zT := List.mem_append_right _ (List.mem_filter.mpr ⟨(List.mem_append_right _ (List.mem_append_right _ (List.mem_append_right _ (List.mem_append_right _ (List.mem_append_right _ (List.mem_append_right _ (List.mem_append_right _ (List.mem_append_left _ h)))))))), g⟩)
theorem zt_9 {w : Cond} (h : w ∈ tables_1_9) (g : goodWord w = true) : w ∈ zT := List.mem_append_right _ (List.mem_filter.mpr ⟨(List.mem_append_right _ (List.mem_append_right _ (List.mem_append_right _ (List.mem_append_right _ (List.mem_append_right _ (List.mem_append_right _ (List.mem_append_right _ (List.mem_append_right _ h)))))))), g⟩)
theorem zs_1 {w : Cond} (h : w ∈ k2_sels lw_privs_1) : w ∈ zT := by
  obtain ⟨q, g, rfl⟩ := List.mem_map.mp h
  exact List.mem_append_left _ (List.mem_map.mpr ⟨q, (List.mem_append_left _ g), rfl⟩)
theorem zs_2 {w : Cond} (h : w ∈ k2_sels lw_privs_2) : w ∈ zT := by
  obtain ⟨q, g, rfl⟩ := List.mem_map.mp h
  exact List.mem_append_left _ (List.mem_map.mpr ⟨q, (List.mem_append_right _ (List.mem_append_left _ g)), rfl⟩)
theorem zs_3 {w : Cond} (h : w ∈ k2_sels lw_privs_3) : w ∈ zT := by
  obtain ⟨q, g, rfl⟩ := List.mem_map.mp h
  exact List.mem_append_left _ (List.mem_map.mpr ⟨q, (List.mem_append_right _ (List.mem_append_right _ (List.mem_append_left _ g))), rfl⟩)
theorem zs_4 {w : Cond} (h : w ∈ k2_sels lw_privs_4) : w ∈ zT := by
  obtain ⟨q, g, rfl⟩ := List.mem_map.mp h
  exact List.mem_append_left _ (List.mem_map.mpr ⟨q, (List.mem_append_right _ (List.mem_append_right _ (List.mem_append_right _ (List.mem_append_left _ g)))), rfl⟩)
theorem zs_5 {w : Cond} (h : w ∈ k2_sels lw_privs_5) : w ∈ zT := by
  obtain ⟨q, g, rfl⟩ := List.mem_map.mp h
  exact List.mem_append_left _ (List.mem_map.mpr ⟨q, (List.mem_append_right _ (List.mem_append_right _ (List.mem_append_right _ (List.mem_append_right _ (List.mem_append_left _ g))))), rfl⟩)
theorem zs_6 {w : Cond} (h : w ∈ k2_sels lw_privs_6) : w ∈ zT := by
  obtain ⟨q, g, rfl⟩ := List.mem_map.mp h
  exact List.mem_append_left _ (List.mem_map.mpr ⟨q, (List.mem_append_right _ (List.mem_append_right _ (List.mem_append_right _ (List.mem_append_right _ (List.mem_append_right _ (List.mem_append_left _ g)))))), rfl⟩)
theorem zs_7 {w : Cond} (h : w ∈ k2_sels lw_privs_7) : w ∈ zT := by
  obtain ⟨q, g, rfl⟩ := List.mem_map.mp h
  exact List.mem_append_left _ (List.mem_map.mpr ⟨q, (List.mem_append_right _ (List.mem_append_right _ (List.mem_append_right _ (List.mem_append_right _ (List.mem_append_right _ (List.mem_append_right _ (List.mem_append_left _ g))))))), rfl⟩)
theorem zs_8 {w : Cond} (h : w ∈ k2_sels lw_privs_8) : w ∈ zT := by
  obtain ⟨q, g, rfl⟩ := List.mem_map.mp h
  exact List.mem_append_left _ (List.mem_map.mpr ⟨q, (List.mem_append_right _ (List.mem_append_right _ (List.mem_append_right _ (List.mem_append_right _ (List.mem_append_right _ (List.mem_append_right _ (List.mem_append_right _ g))))))), rfl⟩)
theorem zw_t2_112 : Cond.lays RX0 "NameGate$Chances" "town" "LNameGate$Town;" ∈ zT := zt_2 (List.mem_of_getElem? (i := 112) (by decide +kernel)) (by decide +kernel)
theorem zw_t2_114 : Cond.lays RX0 "NameGate$Chances" "names" "I" ∈ zT := zt_2 (List.mem_of_getElem? (i := 114) (by decide +kernel)) (by decide +kernel)
theorem zw_t2_116 : Cond.lays RX0 "NameGate$Chances" "gone" "I" ∈ zT := zt_2 (List.mem_of_getElem? (i := 116) (by decide +kernel)) (by decide +kernel)
theorem zw_t2_118 : Cond.lays RX0 "NameGate$Chances" "goal" "I" ∈ zT := zt_2 (List.mem_of_getElem? (i := 118) (by decide +kernel)) (by decide +kernel)
theorem zw_t2_120 : Cond.lays RX0 "NameGate$Chances" "lastHour" "I" ∈ zT := zt_2 (List.mem_of_getElem? (i := 120) (by decide +kernel)) (by decide +kernel)
theorem zw_t2_122 : Cond.laysFinal RX0 "NameGate$Chances" "unsure" "[I" ∈ zT := zt_2 (List.mem_of_getElem? (i := 122) (by decide +kernel)) (by decide +kernel)
theorem zw_t2_124 : Cond.laysFinal RX0 "NameGate$Chances" "seats" "[I" ∈ zT := zt_2 (List.mem_of_getElem? (i := 124) (by decide +kernel)) (by decide +kernel)
theorem zw_t2_126 : Cond.lays RX0 "NameGate$Chances" "unsureCount" "I" ∈ zT := zt_2 (List.mem_of_getElem? (i := 126) (by decide +kernel)) (by decide +kernel)
theorem zw_t2_128 : Cond.lays RX0 "NameGate$Chances" "states" "I" ∈ zT := zt_2 (List.mem_of_getElem? (i := 128) (by decide +kernel)) (by decide +kernel)
theorem zw_t2_130 : Cond.laysFinal RX0 "NameGate$Chances" "worth" "[I" ∈ zT := zt_2 (List.mem_of_getElem? (i := 130) (by decide +kernel)) (by decide +kernel)
theorem zw_t2_132 : Cond.lays RX0 "NameGate$Chances" "certain" "I" ∈ zT := zt_2 (List.mem_of_getElem? (i := 132) (by decide +kernel)) (by decide +kernel)
theorem zw_t2_134 : Cond.laysFinal RX0 "NameGate$Chances" "ifTold" "[I" ∈ zT := zt_2 (List.mem_of_getElem? (i := 134) (by decide +kernel)) (by decide +kernel)
theorem zw_t2_136 : Cond.laysFinal RX0 "NameGate$Chances" "ifGone" "[I" ∈ zT := zt_2 (List.mem_of_getElem? (i := 136) (by decide +kernel)) (by decide +kernel)
theorem zw_t2_138 : Cond.laysFinal RX0 "NameGate$Chances" "digits" "[I" ∈ zT := zt_2 (List.mem_of_getElem? (i := 138) (by decide +kernel)) (by decide +kernel)
theorem zw_t2_140 : Cond.lays RX0 "NameGate$Chances" "open" "I" ∈ zT := zt_2 (List.mem_of_getElem? (i := 140) (by decide +kernel)) (by decide +kernel)
theorem zw_t2_142 : Cond.lays RX0 "NameGate$Chances" "doubtful" "I" ∈ zT := zt_2 (List.mem_of_getElem? (i := 142) (by decide +kernel)) (by decide +kernel)
theorem zw_t2_144 : Cond.lays RX0 "NameGate$Chances" "outcomes" "I" ∈ zT := zt_2 (List.mem_of_getElem? (i := 144) (by decide +kernel)) (by decide +kernel)
theorem zl_X0 : ∀ w ∈ wsX00, w ∈ zT := fun w h => by
  obtain ⟨k, hk, rfl⟩ := List.mem_map.mp h
  have hk := List.mem_range.mp hk
  match k, hk with
  | 0, _ => exact zw_t2_112
  | 1, _ => exact zw_t2_114
  | 2, _ => exact zw_t2_116
  | 3, _ => exact zw_t2_118
  | 4, _ => exact zw_t2_120
  | 5, _ => exact zw_t2_122
  | 6, _ => exact zw_t2_124
  | 7, _ => exact zw_t2_126
  | 8, _ => exact zw_t2_128
  | 9, _ => exact zw_t2_130
  | 10, _ => exact zw_t2_132
  | 11, _ => exact zw_t2_134
  | 12, _ => exact zw_t2_136
  | 13, _ => exact zw_t2_138
  | 14, _ => exact zw_t2_140
  | 15, _ => exact zw_t2_142
  | 16, _ => exact zw_t2_144
  | k + 17, hk => exact absurd hk (by omega)
theorem zw_t2_161 : Cond.lays RX1 "NameGate$Day" "place" "I" ∈ zT := zt_2 (List.mem_of_getElem? (i := 161) (by decide +kernel)) (by decide +kernel)
theorem zw_t2_163 : Cond.lays RX1 "NameGate$Day" "court" "I" ∈ zT := zt_2 (List.mem_of_getElem? (i := 163) (by decide +kernel)) (by decide +kernel)
theorem zw_t2_165 : Cond.lays RX1 "NameGate$Day" "hour" "I" ∈ zT := zt_2 (List.mem_of_getElem? (i := 165) (by decide +kernel)) (by decide +kernel)
theorem zw_t2_167 : Cond.lays RX1 "NameGate$Day" "refusals" "I" ∈ zT := zt_2 (List.mem_of_getElem? (i := 167) (by decide +kernel)) (by decide +kernel)
theorem zl_X1 : ∀ w ∈ wsX10, w ∈ zT := fun w h => by
  obtain ⟨k, hk, rfl⟩ := List.mem_map.mp h
  have hk := List.mem_range.mp hk
  match k, hk with
  | 0, _ => exact zw_t2_161
  | 1, _ => exact zw_t2_163
  | 2, _ => exact zw_t2_165
  | 3, _ => exact zw_t2_167
  | k + 4, hk => exact absurd hk (by omega)
theorem zw_t2_55 : Cond.lays RX2 "NameGate$Families" "town" "LNameGate$Town;" ∈ zT := zt_2 (List.mem_of_getElem? (i := 55) (by decide +kernel)) (by decide +kernel)
theorem zw_t2_57 : Cond.lays RX2 "NameGate$Families" "words" "I" ∈ zT := zt_2 (List.mem_of_getElem? (i := 57) (by decide +kernel)) (by decide +kernel)
theorem zw_t2_59 : Cond.laysFinal RX2 "NameGate$Families" "here" "[J" ∈ zT := zt_2 (List.mem_of_getElem? (i := 59) (by decide +kernel)) (by decide +kernel)
theorem zw_t2_61 : Cond.laysFinal RX2 "NameGate$Families" "next" "[J" ∈ zT := zt_2 (List.mem_of_getElem? (i := 61) (by decide +kernel)) (by decide +kernel)
theorem zl_X2 : ∀ w ∈ wsX20, w ∈ zT := fun w h => by
  obtain ⟨k, hk, rfl⟩ := List.mem_map.mp h
  have hk := List.mem_range.mp hk
  match k, hk with
  | 0, _ => exact zw_t2_55
  | 1, _ => exact zw_t2_57
  | 2, _ => exact zw_t2_59
  | 3, _ => exact zw_t2_61
  | k + 4, hk => exact absurd hk (by omega)
theorem zw_t1_169 : Cond.lays RX3 "NameGate$Image" "isKept" "Z" ∈ zT := zt_1 (List.mem_of_getElem? (i := 169) (by decide +kernel)) (by decide +kernel)
theorem zw_t1_171 : Cond.lays RX3 "NameGate$Image" "town" "LNameGate$Town;" ∈ zT := zt_1 (List.mem_of_getElem? (i := 171) (by decide +kernel)) (by decide +kernel)
theorem zw_t1_173 : Cond.lays RX3 "NameGate$Image" "strayed" "I" ∈ zT := zt_1 (List.mem_of_getElem? (i := 173) (by decide +kernel)) (by decide +kernel)
theorem zw_t1_175 : Cond.lays RX3 "NameGate$Image" "names" "I" ∈ zT := zt_1 (List.mem_of_getElem? (i := 175) (by decide +kernel)) (by decide +kernel)
theorem zw_t1_177 : Cond.lays RX3 "NameGate$Image" "known" "I" ∈ zT := zt_1 (List.mem_of_getElem? (i := 177) (by decide +kernel)) (by decide +kernel)
theorem zw_t1_179 : Cond.lays RX3 "NameGate$Image" "gone" "I" ∈ zT := zt_1 (List.mem_of_getElem? (i := 179) (by decide +kernel)) (by decide +kernel)
theorem zl_X3 : ∀ w ∈ wsX30, w ∈ zT := fun w h => by
  obtain ⟨k, hk, rfl⟩ := List.mem_map.mp h
  have hk := List.mem_range.mp hk
  match k, hk with
  | 0, _ => exact zw_t1_169
  | 1, _ => exact zw_t1_171
  | 2, _ => exact zw_t1_173
  | 3, _ => exact zw_t1_175
  | 4, _ => exact zw_t1_177
  | 5, _ => exact zw_t1_179
  | k + 6, hk => exact absurd hk (by omega)
theorem zw_t2_75 : Cond.laysFinal RX4 "NameGate$Meeting" "pairs" "[I" ∈ zT := zt_2 (List.mem_of_getElem? (i := 75) (by decide +kernel)) (by decide +kernel)
theorem zw_t2_77 : Cond.laysFinal RX4 "NameGate$Meeting" "nextPairs" "[I" ∈ zT := zt_2 (List.mem_of_getElem? (i := 77) (by decide +kernel)) (by decide +kernel)
theorem zw_t2_79 : Cond.laysFinal RX4 "NameGate$Meeting" "triples" "[I" ∈ zT := zt_2 (List.mem_of_getElem? (i := 79) (by decide +kernel)) (by decide +kernel)
theorem zw_t2_81 : Cond.laysFinal RX4 "NameGate$Meeting" "fresh" "[I" ∈ zT := zt_2 (List.mem_of_getElem? (i := 81) (by decide +kernel)) (by decide +kernel)
theorem zw_t2_83 : Cond.laysFinal RX4 "NameGate$Meeting" "nextTriples" "[I" ∈ zT := zt_2 (List.mem_of_getElem? (i := 83) (by decide +kernel)) (by decide +kernel)
theorem zl_X4 : ∀ w ∈ wsX40, w ∈ zT := fun w h => by
  obtain ⟨k, hk, rfl⟩ := List.mem_map.mp h
  have hk := List.mem_range.mp hk
  match k, hk with
  | 0, _ => exact zw_t2_75
  | 1, _ => exact zw_t2_77
  | 2, _ => exact zw_t2_79
  | 3, _ => exact zw_t2_81
  | 4, _ => exact zw_t2_83
  | k + 5, hk => exact absurd hk (by omega)
theorem zw_t1_208 : Cond.lays RX5 "NameGate$Reader" "fault" "I" ∈ zT := zt_1 (List.mem_of_getElem? (i := 208) (by decide +kernel)) (by decide +kernel)
theorem zw_t1_210 : Cond.lays RX5 "NameGate$Reader" "place" "I" ∈ zT := zt_1 (List.mem_of_getElem? (i := 210) (by decide +kernel)) (by decide +kernel)
theorem zw_t1_212 : Cond.lays RX5 "NameGate$Reader" "text" "[B" ∈ zT := zt_1 (List.mem_of_getElem? (i := 212) (by decide +kernel)) (by decide +kernel)
theorem zw_t1_214 : Cond.laysFinal RX5 "NameGate$Reader" "kinds" "[I" ∈ zT := zt_1 (List.mem_of_getElem? (i := 214) (by decide +kernel)) (by decide +kernel)
theorem zw_t1_216 : Cond.laysFinal RX5 "NameGate$Reader" "starts" "[I" ∈ zT := zt_1 (List.mem_of_getElem? (i := 216) (by decide +kernel)) (by decide +kernel)
theorem zw_t1_218 : Cond.laysFinal RX5 "NameGate$Reader" "stops" "[I" ∈ zT := zt_1 (List.mem_of_getElem? (i := 218) (by decide +kernel)) (by decide +kernel)
theorem zw_t1_220 : Cond.laysFinal RX5 "NameGate$Reader" "values" "[I" ∈ zT := zt_1 (List.mem_of_getElem? (i := 220) (by decide +kernel)) (by decide +kernel)
theorem zw_t1_222 : Cond.lays RX5 "NameGate$Reader" "tokens" "I" ∈ zT := zt_1 (List.mem_of_getElem? (i := 222) (by decide +kernel)) (by decide +kernel)
theorem zw_t1_224 : Cond.lays RX5 "NameGate$Reader" "at" "I" ∈ zT := zt_1 (List.mem_of_getElem? (i := 224) (by decide +kernel)) (by decide +kernel)
theorem zw_t1_226 : Cond.lays RX5 "NameGate$Reader" "town" "LNameGate$Town;" ∈ zT := zt_1 (List.mem_of_getElem? (i := 226) (by decide +kernel)) (by decide +kernel)
theorem zw_t1_228 : Cond.lays RX5 "NameGate$Reader" "strayCount" "I" ∈ zT := zt_1 (List.mem_of_getElem? (i := 228) (by decide +kernel)) (by decide +kernel)
theorem zw_t1_230 : Cond.lays RX5 "NameGate$Reader" "lawTold" "Z" ∈ zT := zt_1 (List.mem_of_getElem? (i := 230) (by decide +kernel)) (by decide +kernel)
theorem zw_t1_232 : Cond.lays RX5 "NameGate$Reader" "falseTold" "Z" ∈ zT := zt_1 (List.mem_of_getElem? (i := 232) (by decide +kernel)) (by decide +kernel)
theorem zl_X5 : ∀ w ∈ wsX50, w ∈ zT := fun w h => by
  obtain ⟨k, hk, rfl⟩ := List.mem_map.mp h
  have hk := List.mem_range.mp hk
  match k, hk with
  | 0, _ => exact zw_t1_208
  | 1, _ => exact zw_t1_210
  | 2, _ => exact zw_t1_212
  | 3, _ => exact zw_t1_214
  | 4, _ => exact zw_t1_216
  | 5, _ => exact zw_t1_218
  | 6, _ => exact zw_t1_220
  | 7, _ => exact zw_t1_222
  | 8, _ => exact zw_t1_224
  | 9, _ => exact zw_t1_226
  | 10, _ => exact zw_t1_228
  | 11, _ => exact zw_t1_230
  | 12, _ => exact zw_t1_232
  | k + 13, hk => exact absurd hk (by omega)
theorem zw_t2_182 : Cond.lays RX6 "NameGate$Row" "width" "I" ∈ zT := zt_2 (List.mem_of_getElem? (i := 182) (by decide +kernel)) (by decide +kernel)
theorem zw_t2_184 : Cond.lays RX6 "NameGate$Row" "size" "I" ∈ zT := zt_2 (List.mem_of_getElem? (i := 184) (by decide +kernel)) (by decide +kernel)
theorem zw_t2_186 : Cond.laysFinal RX6 "NameGate$Row" "numbers" "[J" ∈ zT := zt_2 (List.mem_of_getElem? (i := 186) (by decide +kernel)) (by decide +kernel)
theorem zl_X6 : ∀ w ∈ wsX60, w ∈ zT := fun w h => by
  obtain ⟨k, hk, rfl⟩ := List.mem_map.mp h
  have hk := List.mem_range.mp hk
  match k, hk with
  | 0, _ => exact zw_t2_182
  | 1, _ => exact zw_t2_184
  | 2, _ => exact zw_t2_186
  | k + 3, hk => exact absurd hk (by omega)
theorem zw_t1_113 : Cond.lays RX7 "NameGate$Town" "hours" "I" ∈ zT := zt_1 (List.mem_of_getElem? (i := 113) (by decide +kernel)) (by decide +kernel)
theorem zw_t1_115 : Cond.lays RX7 "NameGate$Town" "courts" "I" ∈ zT := zt_1 (List.mem_of_getElem? (i := 115) (by decide +kernel)) (by decide +kernel)
theorem zw_t1_117 : Cond.lays RX7 "NameGate$Town" "gateCount" "I" ∈ zT := zt_1 (List.mem_of_getElem? (i := 117) (by decide +kernel)) (by decide +kernel)
theorem zw_t1_119 : Cond.lays RX7 "NameGate$Town" "people" "I" ∈ zT := zt_1 (List.mem_of_getElem? (i := 119) (by decide +kernel)) (by decide +kernel)
theorem zw_t1_121 : Cond.lays RX7 "NameGate$Town" "lines" "I" ∈ zT := zt_1 (List.mem_of_getElem? (i := 121) (by decide +kernel)) (by decide +kernel)
theorem zw_t1_123 : Cond.lays RX7 "NameGate$Town" "falseHours" "I" ∈ zT := zt_1 (List.mem_of_getElem? (i := 123) (by decide +kernel)) (by decide +kernel)
theorem zw_t1_125 : Cond.lays RX7 "NameGate$Town" "strayers" "I" ∈ zT := zt_1 (List.mem_of_getElem? (i := 125) (by decide +kernel)) (by decide +kernel)
theorem zw_t1_127 : Cond.lays RX7 "NameGate$Town" "deep" "Z" ∈ zT := zt_1 (List.mem_of_getElem? (i := 127) (by decide +kernel)) (by decide +kernel)
theorem zw_t1_129 : Cond.laysFinal RX7 "NameGate$Town" "above" "[I" ∈ zT := zt_1 (List.mem_of_getElem? (i := 129) (by decide +kernel)) (by decide +kernel)
theorem zw_t1_131 : Cond.laysFinal RX7 "NameGate$Town" "doors" "[I" ∈ zT := zt_1 (List.mem_of_getElem? (i := 131) (by decide +kernel)) (by decide +kernel)
theorem zw_t1_133 : Cond.laysFinal RX7 "NameGate$Town" "degrees" "[I" ∈ zT := zt_1 (List.mem_of_getElem? (i := 133) (by decide +kernel)) (by decide +kernel)
theorem zw_t1_135 : Cond.laysFinal RX7 "NameGate$Town" "neighbours" "[I" ∈ zT := zt_1 (List.mem_of_getElem? (i := 135) (by decide +kernel)) (by decide +kernel)
theorem zw_t1_137 : Cond.laysFinal RX7 "NameGate$Town" "shows" "[I" ∈ zT := zt_1 (List.mem_of_getElem? (i := 137) (by decide +kernel)) (by decide +kernel)
theorem zw_t1_139 : Cond.laysFinal RX7 "NameGate$Town" "oneEnd" "[I" ∈ zT := zt_1 (List.mem_of_getElem? (i := 139) (by decide +kernel)) (by decide +kernel)
theorem zw_t1_141 : Cond.laysFinal RX7 "NameGate$Town" "otherEnd" "[I" ∈ zT := zt_1 (List.mem_of_getElem? (i := 141) (by decide +kernel)) (by decide +kernel)
theorem zw_t1_143 : Cond.laysFinal RX7 "NameGate$Town" "told" "[I" ∈ zT := zt_1 (List.mem_of_getElem? (i := 143) (by decide +kernel)) (by decide +kernel)
theorem zw_t1_145 : Cond.laysFinal RX7 "NameGate$Town" "strayParts" "[I" ∈ zT := zt_1 (List.mem_of_getElem? (i := 145) (by decide +kernel)) (by decide +kernel)
theorem zw_t1_147 : Cond.laysFinal RX7 "NameGate$Town" "strayCourts" "[I" ∈ zT := zt_1 (List.mem_of_getElem? (i := 147) (by decide +kernel)) (by decide +kernel)
theorem zl_X7 : ∀ w ∈ wsX70, w ∈ zT := fun w h => by
  obtain ⟨k, hk, rfl⟩ := List.mem_map.mp h
  have hk := List.mem_range.mp hk
  match k, hk with
  | 0, _ => exact zw_t1_113
  | 1, _ => exact zw_t1_115
  | 2, _ => exact zw_t1_117
  | 3, _ => exact zw_t1_119
  | 4, _ => exact zw_t1_121
  | 5, _ => exact zw_t1_123
  | 6, _ => exact zw_t1_125
  | 7, _ => exact zw_t1_127
  | 8, _ => exact zw_t1_129
  | 9, _ => exact zw_t1_131
  | 10, _ => exact zw_t1_133
  | 11, _ => exact zw_t1_135
  | 12, _ => exact zw_t1_137
  | 13, _ => exact zw_t1_139
  | 14, _ => exact zw_t1_141
  | 15, _ => exact zw_t1_143
  | 16, _ => exact zw_t1_145
  | 17, _ => exact zw_t1_147
  | k + 18, hk => exact absurd hk (by omega)
theorem zw_t2_19 : Cond.lays RX8 "NameGate$Walk" "fewestGates" "I" ∈ zT := zt_2 (List.mem_of_getElem? (i := 19) (by decide +kernel)) (by decide +kernel)
theorem zw_t2_21 : Cond.lays RX8 "NameGate$Walk" "firstGate" "I" ∈ zT := zt_2 (List.mem_of_getElem? (i := 21) (by decide +kernel)) (by decide +kernel)
theorem zw_t2_23 : Cond.lays RX8 "NameGate$Walk" "firstHour" "I" ∈ zT := zt_2 (List.mem_of_getElem? (i := 23) (by decide +kernel)) (by decide +kernel)
theorem zw_t2_25 : Cond.lays RX8 "NameGate$Walk" "town" "LNameGate$Town;" ∈ zT := zt_2 (List.mem_of_getElem? (i := 25) (by decide +kernel)) (by decide +kernel)
theorem zw_t2_27 : Cond.laysFinal RX8 "NameGate$Walk" "open" "[I" ∈ zT := zt_2 (List.mem_of_getElem? (i := 27) (by decide +kernel)) (by decide +kernel)
theorem zw_t2_29 : Cond.laysFinal RX8 "NameGate$Walk" "followed" "[I" ∈ zT := zt_2 (List.mem_of_getElem? (i := 29) (by decide +kernel)) (by decide +kernel)
theorem zw_t2_31 : Cond.laysFinal RX8 "NameGate$Walk" "doors" "[I" ∈ zT := zt_2 (List.mem_of_getElem? (i := 31) (by decide +kernel)) (by decide +kernel)
theorem zw_t2_33 : Cond.laysFinal RX8 "NameGate$Walk" "costs" "[I" ∈ zT := zt_2 (List.mem_of_getElem? (i := 33) (by decide +kernel)) (by decide +kernel)
theorem zw_t2_35 : Cond.laysFinal RX8 "NameGate$Walk" "lower" "[I" ∈ zT := zt_2 (List.mem_of_getElem? (i := 35) (by decide +kernel)) (by decide +kernel)
theorem zw_t2_37 : Cond.laysFinal RX8 "NameGate$Walk" "numbers" "[J" ∈ zT := zt_2 (List.mem_of_getElem? (i := 37) (by decide +kernel)) (by decide +kernel)
theorem zw_t2_39 : Cond.laysFinal RX8 "NameGate$Walk" "more" "[J" ∈ zT := zt_2 (List.mem_of_getElem? (i := 39) (by decide +kernel)) (by decide +kernel)
theorem zl_X8 : ∀ w ∈ wsX80, w ∈ zT := fun w h => by
  obtain ⟨k, hk, rfl⟩ := List.mem_map.mp h
  have hk := List.mem_range.mp hk
  match k, hk with
  | 0, _ => exact zw_t2_19
  | 1, _ => exact zw_t2_21
  | 2, _ => exact zw_t2_23
  | 3, _ => exact zw_t2_25
  | 4, _ => exact zw_t2_27
  | 5, _ => exact zw_t2_29
  | 6, _ => exact zw_t2_31
  | 7, _ => exact zw_t2_33
  | 8, _ => exact zw_t2_35
  | 9, _ => exact zw_t2_37
  | 10, _ => exact zw_t2_39
  | k + 11, hk => exact absurd hk (by omega)
theorem zw_t2_202 : Cond.laysFinal RX9 "NameGate" "tape" "[B" ∈ zT := zt_2 (List.mem_of_getElem? (i := 202) (by decide +kernel)) (by decide +kernel)
theorem zw_t2_204 : Cond.lays RX9 "NameGate" "tapeLength" "I" ∈ zT := zt_2 (List.mem_of_getElem? (i := 204) (by decide +kernel)) (by decide +kernel)
theorem zw_t2_206 : Cond.lays RX9 "NameGate" "faultKind" "I" ∈ zT := zt_2 (List.mem_of_getElem? (i := 206) (by decide +kernel)) (by decide +kernel)
theorem zw_t2_208 : Cond.lays RX9 "NameGate" "faultPlace" "I" ∈ zT := zt_2 (List.mem_of_getElem? (i := 208) (by decide +kernel)) (by decide +kernel)
theorem zw_t2_210 : Cond.laysFinal RX9 "NameGate" "now" "LNameGate$Image;" ∈ zT := zt_2 (List.mem_of_getElem? (i := 210) (by decide +kernel)) (by decide +kernel)
theorem zw_t2_212 : Cond.laysFinal RX9 "NameGate" "images" "[LNameGate$Image;" ∈ zT := zt_2 (List.mem_of_getElem? (i := 212) (by decide +kernel)) (by decide +kernel)
theorem zw_t2_214 : Cond.laysFinal RX9 "NameGate" "slots" "[LNameGate$Row;" ∈ zT := zt_2 (List.mem_of_getElem? (i := 214) (by decide +kernel)) (by decide +kernel)
theorem zw_t2_216 : Cond.laysFinal RX9 "NameGate" "reader" "LNameGate$Reader;" ∈ zT := zt_2 (List.mem_of_getElem? (i := 216) (by decide +kernel)) (by decide +kernel)
theorem zw_t2_218 : Cond.laysFinal RX9 "NameGate" "walk" "LNameGate$Walk;" ∈ zT := zt_2 (List.mem_of_getElem? (i := 218) (by decide +kernel)) (by decide +kernel)
theorem zw_t2_220 : Cond.laysFinal RX9 "NameGate" "families" "LNameGate$Families;" ∈ zT := zt_2 (List.mem_of_getElem? (i := 220) (by decide +kernel)) (by decide +kernel)
theorem zw_t2_222 : Cond.laysFinal RX9 "NameGate" "meeting" "LNameGate$Meeting;" ∈ zT := zt_2 (List.mem_of_getElem? (i := 222) (by decide +kernel)) (by decide +kernel)
theorem zw_t2_224 : Cond.laysFinal RX9 "NameGate" "chances" "LNameGate$Chances;" ∈ zT := zt_2 (List.mem_of_getElem? (i := 224) (by decide +kernel)) (by decide +kernel)
theorem zw_t2_226 : Cond.laysFinal RX9 "NameGate" "day" "LNameGate$Day;" ∈ zT := zt_2 (List.mem_of_getElem? (i := 226) (by decide +kernel)) (by decide +kernel)
theorem zl_X9 : ∀ w ∈ wsX90, w ∈ zT := fun w h => by
  obtain ⟨k, hk, rfl⟩ := List.mem_map.mp h
  have hk := List.mem_range.mp hk
  match k, hk with
  | 0, _ => exact zw_t2_202
  | 1, _ => exact zw_t2_204
  | 2, _ => exact zw_t2_206
  | 3, _ => exact zw_t2_208
  | 4, _ => exact zw_t2_210
  | 5, _ => exact zw_t2_212
  | 6, _ => exact zw_t2_214
  | 7, _ => exact zw_t2_216
  | 8, _ => exact zw_t2_218
  | 9, _ => exact zw_t2_220
  | 10, _ => exact zw_t2_222
  | 11, _ => exact zw_t2_224
  | 12, _ => exact zw_t2_226
  | k + 13, hk => exact absurd hk (by omega)
theorem zw_t6_153 : Cond.lays RX10 "NameGateModel" "thrown" "I" ∈ zT := zt_6 (List.mem_of_getElem? (i := 153) (by decide +kernel)) (by decide +kernel)
theorem zw_t6_155 : Cond.laysFinal RX10 "NameGateModel" "width" "[I" ∈ zT := zt_6 (List.mem_of_getElem? (i := 155) (by decide +kernel)) (by decide +kernel)
theorem zw_t6_157 : Cond.laysFinal RX10 "NameGateModel" "many" "[I" ∈ zT := zt_6 (List.mem_of_getElem? (i := 157) (by decide +kernel)) (by decide +kernel)
theorem zw_t6_159 : Cond.laysFinal RX10 "NameGateModel" "cells" "[J" ∈ zT := zt_6 (List.mem_of_getElem? (i := 159) (by decide +kernel)) (by decide +kernel)
theorem zw_t6_161 : Cond.laysFinal RX10 "NameGateModel" "moved" "[J" ∈ zT := zt_6 (List.mem_of_getElem? (i := 161) (by decide +kernel)) (by decide +kernel)
theorem zw_t6_163 : Cond.laysFinal RX10 "NameGateModel" "tape" "[B" ∈ zT := zt_6 (List.mem_of_getElem? (i := 163) (by decide +kernel)) (by decide +kernel)
theorem zw_t6_165 : Cond.lays RX10 "NameGateModel" "taped" "I" ∈ zT := zt_6 (List.mem_of_getElem? (i := 165) (by decide +kernel)) (by decide +kernel)
theorem zw_t6_167 : Cond.lays RX10 "NameGateModel" "at" "I" ∈ zT := zt_6 (List.mem_of_getElem? (i := 167) (by decide +kernel)) (by decide +kernel)
theorem zw_t6_169 : Cond.lays RX10 "NameGateModel" "token" "I" ∈ zT := zt_6 (List.mem_of_getElem? (i := 169) (by decide +kernel)) (by decide +kernel)
theorem zw_t6_171 : Cond.lays RX10 "NameGateModel" "place" "I" ∈ zT := zt_6 (List.mem_of_getElem? (i := 171) (by decide +kernel)) (by decide +kernel)
theorem zw_t6_173 : Cond.lays RX10 "NameGateModel" "value" "I" ∈ zT := zt_6 (List.mem_of_getElem? (i := 173) (by decide +kernel)) (by decide +kernel)
theorem zw_t6_175 : Cond.lays RX10 "NameGateModel" "word" "J" ∈ zT := zt_6 (List.mem_of_getElem? (i := 175) (by decide +kernel)) (by decide +kernel)
theorem zw_t6_177 : Cond.lays RX10 "NameGateModel" "bad" "I" ∈ zT := zt_6 (List.mem_of_getElem? (i := 177) (by decide +kernel)) (by decide +kernel)
theorem zw_t6_179 : Cond.lays RX10 "NameGateModel" "badPlace" "I" ∈ zT := zt_6 (List.mem_of_getElem? (i := 179) (by decide +kernel)) (by decide +kernel)
theorem zw_t6_181 : Cond.lays RX10 "NameGateModel" "fault" "I" ∈ zT := zt_6 (List.mem_of_getElem? (i := 181) (by decide +kernel)) (by decide +kernel)
theorem zw_t6_183 : Cond.lays RX10 "NameGateModel" "faultPlace" "I" ∈ zT := zt_6 (List.mem_of_getElem? (i := 183) (by decide +kernel)) (by decide +kernel)
theorem zw_t6_185 : Cond.laysFinal RX10 "NameGateModel" "lines" "[I" ∈ zT := zt_6 (List.mem_of_getElem? (i := 185) (by decide +kernel)) (by decide +kernel)
theorem zw_t6_187 : Cond.laysFinal RX10 "NameGateModel" "hours" "[I" ∈ zT := zt_6 (List.mem_of_getElem? (i := 187) (by decide +kernel)) (by decide +kernel)
theorem zw_t6_189 : Cond.laysFinal RX10 "NameGateModel" "courts" "[I" ∈ zT := zt_6 (List.mem_of_getElem? (i := 189) (by decide +kernel)) (by decide +kernel)
theorem zw_t6_191 : Cond.laysFinal RX10 "NameGateModel" "in" "[I" ∈ zT := zt_6 (List.mem_of_getElem? (i := 191) (by decide +kernel)) (by decide +kernel)
theorem zw_t6_193 : Cond.laysFinal RX10 "NameGateModel" "gates" "[I" ∈ zT := zt_6 (List.mem_of_getElem? (i := 193) (by decide +kernel)) (by decide +kernel)
theorem zw_t6_195 : Cond.laysFinal RX10 "NameGateModel" "gate" "[I" ∈ zT := zt_6 (List.mem_of_getElem? (i := 195) (by decide +kernel)) (by decide +kernel)
theorem zw_t6_197 : Cond.laysFinal RX10 "NameGateModel" "people" "[I" ∈ zT := zt_6 (List.mem_of_getElem? (i := 197) (by decide +kernel)) (by decide +kernel)
theorem zw_t6_199 : Cond.laysFinal RX10 "NameGateModel" "at0" "[I" ∈ zT := zt_6 (List.mem_of_getElem? (i := 199) (by decide +kernel)) (by decide +kernel)
theorem zw_t6_201 : Cond.laysFinal RX10 "NameGateModel" "stray" "[I" ∈ zT := zt_6 (List.mem_of_getElem? (i := 201) (by decide +kernel)) (by decide +kernel)
theorem zw_t6_203 : Cond.laysFinal RX10 "NameGateModel" "set" "[I" ∈ zT := zt_6 (List.mem_of_getElem? (i := 203) (by decide +kernel)) (by decide +kernel)
theorem zw_t6_205 : Cond.laysFinal RX10 "NameGateModel" "once" "[Z" ∈ zT := zt_6 (List.mem_of_getElem? (i := 205) (by decide +kernel)) (by decide +kernel)
theorem zw_t6_207 : Cond.laysFinal RX10 "NameGateModel" "truth" "[I" ∈ zT := zt_6 (List.mem_of_getElem? (i := 207) (by decide +kernel)) (by decide +kernel)
theorem zw_t6_209 : Cond.laysFinal RX10 "NameGateModel" "known" "[I" ∈ zT := zt_6 (List.mem_of_getElem? (i := 209) (by decide +kernel)) (by decide +kernel)
theorem zw_t6_211 : Cond.laysFinal RX10 "NameGateModel" "isKept" "[Z" ∈ zT := zt_6 (List.mem_of_getElem? (i := 211) (by decide +kernel)) (by decide +kernel)
theorem zw_t6_213 : Cond.lays RX10 "NameGateModel" "strays" "I" ∈ zT := zt_6 (List.mem_of_getElem? (i := 213) (by decide +kernel)) (by decide +kernel)
theorem zw_t6_215 : Cond.lays RX10 "NameGateModel" "hostPerson" "I" ∈ zT := zt_6 (List.mem_of_getElem? (i := 215) (by decide +kernel)) (by decide +kernel)
theorem zw_t6_217 : Cond.lays RX10 "NameGateModel" "hostCourt" "I" ∈ zT := zt_6 (List.mem_of_getElem? (i := 217) (by decide +kernel)) (by decide +kernel)
theorem zw_t6_219 : Cond.lays RX10 "NameGateModel" "outside" "I" ∈ zT := zt_6 (List.mem_of_getElem? (i := 219) (by decide +kernel)) (by decide +kernel)
theorem zw_t6_221 : Cond.laysFinal RX10 "NameGateModel" "inside" "[I" ∈ zT := zt_6 (List.mem_of_getElem? (i := 221) (by decide +kernel)) (by decide +kernel)
theorem zw_t6_223 : Cond.laysFinal RX10 "NameGateModel" "can" "[I" ∈ zT := zt_6 (List.mem_of_getElem? (i := 223) (by decide +kernel)) (by decide +kernel)
theorem zw_t6_225 : Cond.laysFinal RX10 "NameGateModel" "fewest" "[I" ∈ zT := zt_6 (List.mem_of_getElem? (i := 225) (by decide +kernel)) (by decide +kernel)
theorem zw_t6_227 : Cond.laysFinal RX10 "NameGateModel" "waysTo" "[J" ∈ zT := zt_6 (List.mem_of_getElem? (i := 227) (by decide +kernel)) (by decide +kernel)
theorem zw_t6_229 : Cond.laysFinal RX10 "NameGateModel" "then" "[J" ∈ zT := zt_6 (List.mem_of_getElem? (i := 229) (by decide +kernel)) (by decide +kernel)
theorem zw_t6_231 : Cond.laysFinal RX10 "NameGateModel" "two" "[Z" ∈ zT := zt_6 (List.mem_of_getElem? (i := 231) (by decide +kernel)) (by decide +kernel)
theorem zw_t6_233 : Cond.laysFinal RX10 "NameGateModel" "nextTwo" "[Z" ∈ zT := zt_6 (List.mem_of_getElem? (i := 233) (by decide +kernel)) (by decide +kernel)
theorem zw_t6_235 : Cond.laysFinal RX10 "NameGateModel" "three" "[Z" ∈ zT := zt_6 (List.mem_of_getElem? (i := 235) (by decide +kernel)) (by decide +kernel)
theorem zw_t6_237 : Cond.laysFinal RX10 "NameGateModel" "nextThree" "[Z" ∈ zT := zt_6 (List.mem_of_getElem? (i := 237) (by decide +kernel)) (by decide +kernel)
theorem zw_t6_239 : Cond.lays RX10 "NameGateModel" "shut" "I" ∈ zT := zt_6 (List.mem_of_getElem? (i := 239) (by decide +kernel)) (by decide +kernel)
theorem zw_t7_1 : Cond.laysFinal RX10 "NameGateModel" "worth" "[J" ∈ zT := zt_7 (List.mem_of_getElem? (i := 1) (by decide +kernel)) (by decide +kernel)
theorem zw_t7_3 : Cond.laysFinal RX10 "NameGateModel" "digit" "[I" ∈ zT := zt_7 (List.mem_of_getElem? (i := 3) (by decide +kernel)) (by decide +kernel)
theorem zw_t7_5 : Cond.lays RX10 "NameGateModel" "codes" "I" ∈ zT := zt_7 (List.mem_of_getElem? (i := 5) (by decide +kernel)) (by decide +kernel)
theorem zw_t7_7 : Cond.lays RX10 "NameGateModel" "most" "J" ∈ zT := zt_7 (List.mem_of_getElem? (i := 7) (by decide +kernel)) (by decide +kernel)
theorem zw_t7_9 : Cond.lays RX10 "NameGateModel" "bestTry" "I" ∈ zT := zt_7 (List.mem_of_getElem? (i := 9) (by decide +kernel)) (by decide +kernel)
theorem zw_t7_11 : Cond.lays RX10 "NameGateModel" "dayCourt" "I" ∈ zT := zt_7 (List.mem_of_getElem? (i := 11) (by decide +kernel)) (by decide +kernel)
theorem zw_t7_13 : Cond.lays RX10 "NameGateModel" "dayHour" "I" ∈ zT := zt_7 (List.mem_of_getElem? (i := 13) (by decide +kernel)) (by decide +kernel)
theorem zw_t7_15 : Cond.lays RX10 "NameGateModel" "dayNo" "I" ∈ zT := zt_7 (List.mem_of_getElem? (i := 15) (by decide +kernel)) (by decide +kernel)
theorem zw_t7_17 : Cond.lays RX10 "NameGateModel" "x" "J" ∈ zT := zt_7 (List.mem_of_getElem? (i := 17) (by decide +kernel)) (by decide +kernel)
theorem zl_X10 : ∀ w ∈ wsX100, w ∈ zT := fun w h => by
  obtain ⟨k, hk, rfl⟩ := List.mem_map.mp h
  have hk := List.mem_range.mp hk
  match k, hk with
  | 0, _ => exact zw_t6_153
  | 1, _ => exact zw_t6_155
  | 2, _ => exact zw_t6_157
  | 3, _ => exact zw_t6_159
  | 4, _ => exact zw_t6_161
  | 5, _ => exact zw_t6_163
  | 6, _ => exact zw_t6_165
  | 7, _ => exact zw_t6_167
  | 8, _ => exact zw_t6_169
  | 9, _ => exact zw_t6_171
  | 10, _ => exact zw_t6_173
  | 11, _ => exact zw_t6_175
  | 12, _ => exact zw_t6_177
  | 13, _ => exact zw_t6_179
  | 14, _ => exact zw_t6_181
  | 15, _ => exact zw_t6_183
  | 16, _ => exact zw_t6_185
  | 17, _ => exact zw_t6_187
  | 18, _ => exact zw_t6_189
  | 19, _ => exact zw_t6_191
  | 20, _ => exact zw_t6_193
  | 21, _ => exact zw_t6_195
  | 22, _ => exact zw_t6_197
  | 23, _ => exact zw_t6_199
  | 24, _ => exact zw_t6_201
  | 25, _ => exact zw_t6_203
  | 26, _ => exact zw_t6_205
  | 27, _ => exact zw_t6_207
  | 28, _ => exact zw_t6_209
  | 29, _ => exact zw_t6_211
  | 30, _ => exact zw_t6_213
  | 31, _ => exact zw_t6_215
  | 32, _ => exact zw_t6_217
  | 33, _ => exact zw_t6_219
  | 34, _ => exact zw_t6_221
  | 35, _ => exact zw_t6_223
  | 36, _ => exact zw_t6_225
  | 37, _ => exact zw_t6_227
  | 38, _ => exact zw_t6_229
  | 39, _ => exact zw_t6_231
  | 40, _ => exact zw_t6_233
  | 41, _ => exact zw_t6_235
  | 42, _ => exact zw_t6_237
  | 43, _ => exact zw_t6_239
  | 44, _ => exact zw_t7_1
  | 45, _ => exact zw_t7_3
  | 46, _ => exact zw_t7_5
  | 47, _ => exact zw_t7_7
  | 48, _ => exact zw_t7_9
  | 49, _ => exact zw_t7_11
  | 50, _ => exact zw_t7_13
  | 51, _ => exact zw_t7_15
  | 52, _ => exact zw_t7_17
  | k + 53, hk => exact absurd hk (by omega)

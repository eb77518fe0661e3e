/-! the reference: which word -/
def wFarm : List Int32 := [102, 97, 114, 109]
def wLame : List Int32 := [108, 97, 109, 101]
def wProud : List Int32 := [112, 114, 111, 117, 100]
def wSly : List Int32 := [115, 108, 121]
def wDeep : List Int32 := [100, 101, 101, 112]
def wMach : List Int32 := [109, 97, 99, 104, 105, 110, 101]
def wOld : List Int32 := [111, 108, 100]
def wHands : List Int32 := [104, 97, 110, 100, 115]
def wThinks : List Int32 := [116, 104, 105, 110, 107, 115]
def wWet : List Int32 := [119, 101, 116]
def wMice : List Int32 := [109, 105, 99, 101]
def wRain : List Int32 := [114, 97, 105, 110]
def kdI (W : List Int32 → Bool) : Int32 := if W wFarm then 0 else if W wLame then 1 else if W wProud then 2 else if W wSly then 3 else if W wDeep then 4 else if W wMach then 5 else if W wOld then 6 else -1
set_option maxHeartbeats 4000000 in
theorem kh_147 {T f : Nat} {mem : Mem} (hT : mem 50 7 = nI T) (hT2 : T ≤ 120) (hf : mem 50 16 = nI f) (hf2 : f ≤ 120) (e0 : (wI mem (BT mem T) f) wFarm = false) (e1 : (wI mem (BT mem T) f) wLame = false) (e2 : (wI mem (BT mem T) f) wProud = false) (e3 : (wI mem (BT mem T) f) wSly = false) (e4 : (wI mem (BT mem T) f) wDeep = false) (e5 : (wI mem (BT mem T) f) wMach = false) : Wm mX6_kindHere (zM mX6_kindHere (fun r' m' => r' = some (.int (kdI (wI mem (BT mem T) f))) ∧ m' = mem)) 147 [some (.ref 50)] [] mem := by
  refine w_aload_n (i := 0) (n' := 148) dX6_kindHere_147 rfl rfl rfl ?_
  refine w_iconst (v := 3) (n' := 149) dX6_kindHere_148 rfl rfl ?_
  refine v_E (ci := 6) (n' := 152) dX6_kindHere_149 rfl lRX6_241 okX6_isWord voX6_isWord ⟨⟨Nat.le_of_ble_eq_true rfl, Nat.le_of_ble_eq_true rfl⟩, Nat.le_of_ble_eq_true rfl, Nat.le_of_ble_eq_true rfl⟩ (c6_isWord _ _) rfl rfl (Nat.le_of_ble_eq_true rfl) rfl (Nat.le_of_ble_eq_true rfl) rfl ?_
  refine w_if_eq (n' := 155) (tgt := 174) dX6_kindHere_152 rfl rfl (fun h152 => ?_) (fun h152 => ?_)
  · have e6 : wI mem (BT mem T) f wOld = false := bB_0.mp (by rw [wOld, w3_eq, if_pos h152])
    refine w_iconst (v := -1) (n' := 175) dX6_kindHere_174 rfl rfl ?_
    exact w_iret dX6_kindHere_175 rfl ⟨by rw [kdI, if_neg (by rw [e0]; decide), if_neg (by rw [e1]; decide), if_neg (by rw [e2]; decide), if_neg (by rw [e3]; decide), if_neg (by rw [e4]; decide), if_neg (by rw [e5]; decide), if_neg (by rw [e6]; decide)], rfl⟩
  · refine w_aload_n (i := 0) (n' := 156) dX6_kindHere_155 rfl rfl rfl ?_
    refine w_iconst (v := 0) (n' := 157) dX6_kindHere_156 rfl rfl ?_
    refine w_bipush (v := 111) (n' := 159) dX6_kindHere_157 rfl (by decide) ?_
    refine w_bipush (v := 108) (n' := 161) dX6_kindHere_159 rfl (by decide) ?_
    refine w_bipush (v := 100) (n' := 163) dX6_kindHere_161 rfl (by decide) ?_
    refine v_E (ci := 6) (n' := 166) dX6_kindHere_163 rfl lRX6_244 okX6_has3 voX6_has3 ⟨⟨Nat.le_of_ble_eq_true rfl, Nat.le_of_ble_eq_true rfl⟩, Nat.le_of_ble_eq_true rfl, Nat.le_of_ble_eq_true rfl⟩ (c6_has3 (d := 0) hT hT2 hf hf2 (by decide) _ _ _ _ rfl) rfl rfl (Nat.le_of_ble_eq_true rfl) rfl (Nat.le_of_ble_eq_true rfl) rfl ?_
    refine w_if_eq (n' := 169) (tgt := 174) dX6_kindHere_166 rfl rfl (fun h166 => ?_) (fun h166 => ?_)
    · have e6 : wI mem (BT mem T) f wOld = false := bB_0.mp (by rw [wOld, w3_eq, if_neg h152, if_pos h166])
      refine w_iconst (v := -1) (n' := 175) dX6_kindHere_174 rfl rfl ?_
      exact w_iret dX6_kindHere_175 rfl ⟨by rw [kdI, if_neg (by rw [e0]; decide), if_neg (by rw [e1]; decide), if_neg (by rw [e2]; decide), if_neg (by rw [e3]; decide), if_neg (by rw [e4]; decide), if_neg (by rw [e5]; decide), if_neg (by rw [e6]; decide)], rfl⟩
    · have y6 : wI mem (BT mem T) f wOld = true := bB_n.mp (by rw [wOld, w3_eq, if_neg h152, if_neg h166]; decide)
      refine w_bipush (v := 6) (n' := 171) dX6_kindHere_169 rfl (by decide) ?_
      refine w_goto (tgt := 175) dX6_kindHere_171 rfl ?_
      exact w_iret dX6_kindHere_175 rfl ⟨by rw [kdI, if_neg (by rw [e0]; decide), if_neg (by rw [e1]; decide), if_neg (by rw [e2]; decide), if_neg (by rw [e3]; decide), if_neg (by rw [e4]; decide), if_neg (by rw [e5]; decide), if_pos y6], rfl⟩
set_option maxHeartbeats 4000000 in
theorem kh_77 {T f : Nat} {mem : Mem} (hT : mem 50 7 = nI T) (hT2 : T ≤ 120) (hf : mem 50 16 = nI f) (hf2 : f ≤ 120) (e0 : (wI mem (BT mem T) f) wFarm = false) (e1 : (wI mem (BT mem T) f) wLame = false) (e2 : (wI mem (BT mem T) f) wProud = false) (e3 : (wI mem (BT mem T) f) wSly = false) : Wm mX6_kindHere (zM mX6_kindHere (fun r' m' => r' = some (.int (kdI (wI mem (BT mem T) f))) ∧ m' = mem)) 77 [some (.ref 50)] [] mem := by
  refine w_aload_n (i := 0) (n' := 78) dX6_kindHere_77 rfl rfl rfl ?_
  refine w_bipush (v := 100) (n' := 80) dX6_kindHere_78 rfl (by decide) ?_
  refine w_bipush (v := 101) (n' := 82) dX6_kindHere_80 rfl (by decide) ?_
  refine w_bipush (v := 101) (n' := 84) dX6_kindHere_82 rfl (by decide) ?_
  refine w_bipush (v := 112) (n' := 86) dX6_kindHere_84 rfl (by decide) ?_
  refine v_E (ci := 6) (n' := 89) dX6_kindHere_86 rfl lRX6_252 okX6_isFour voX6_isFour ⟨⟨Nat.le_of_ble_eq_true rfl, Nat.le_of_ble_eq_true rfl⟩, Nat.le_of_ble_eq_true rfl, Nat.le_of_ble_eq_true rfl⟩ (c6_isFour hT hT2 hf hf2 100 101 101 112) rfl rfl (Nat.le_of_ble_eq_true rfl) rfl (Nat.le_of_ble_eq_true rfl) rfl ?_
  refine w_if_eq (n' := 92) (tgt := 94) dX6_kindHere_89 rfl rfl (fun h89 => ?_) (fun h89 => ?_)
  · have e4 : wI mem (BT mem T) f wDeep = false := bB_0.mp h89
    refine w_aload_n (i := 0) (n' := 95) dX6_kindHere_94 rfl rfl rfl ?_
    refine w_bipush (v := 7) (n' := 97) dX6_kindHere_95 rfl (by decide) ?_
    refine v_E (ci := 6) (n' := 100) dX6_kindHere_97 rfl lRX6_241 okX6_isWord voX6_isWord ⟨⟨Nat.le_of_ble_eq_true rfl, Nat.le_of_ble_eq_true rfl⟩, Nat.le_of_ble_eq_true rfl, Nat.le_of_ble_eq_true rfl⟩ (c6_isWord _ _) rfl rfl (Nat.le_of_ble_eq_true rfl) rfl (Nat.le_of_ble_eq_true rfl) rfl ?_
    refine w_if_eq (n' := 103) (tgt := 147) dX6_kindHere_100 rfl rfl (fun h100 => ?_) (fun h100 => ?_)
    · have e5 : wI mem (BT mem T) f wMach = false := bB_0.mp (by rw [wMach, w7_eq, if_pos h100])
      exact kh_147 hT hT2 hf hf2 e0 e1 e2 e3 e4 e5
    · refine w_aload_n (i := 0) (n' := 104) dX6_kindHere_103 rfl rfl rfl ?_
      refine w_iconst (v := 0) (n' := 105) dX6_kindHere_104 rfl rfl ?_
      refine w_bipush (v := 109) (n' := 107) dX6_kindHere_105 rfl (by decide) ?_
      refine w_bipush (v := 97) (n' := 109) dX6_kindHere_107 rfl (by decide) ?_
      refine w_bipush (v := 99) (n' := 111) dX6_kindHere_109 rfl (by decide) ?_
      refine v_E (ci := 6) (n' := 114) dX6_kindHere_111 rfl lRX6_244 okX6_has3 voX6_has3 ⟨⟨Nat.le_of_ble_eq_true rfl, Nat.le_of_ble_eq_true rfl⟩, Nat.le_of_ble_eq_true rfl, Nat.le_of_ble_eq_true rfl⟩ (c6_has3 (d := 0) hT hT2 hf hf2 (by decide) _ _ _ _ rfl) rfl rfl (Nat.le_of_ble_eq_true rfl) rfl (Nat.le_of_ble_eq_true rfl) rfl ?_
      refine w_if_eq (n' := 117) (tgt := 147) dX6_kindHere_114 rfl rfl (fun h114 => ?_) (fun h114 => ?_)
      · have e5 : wI mem (BT mem T) f wMach = false := bB_0.mp (by rw [wMach, w7_eq, if_neg h100, if_pos h114])
        exact kh_147 hT hT2 hf hf2 e0 e1 e2 e3 e4 e5
      · refine w_aload_n (i := 0) (n' := 118) dX6_kindHere_117 rfl rfl rfl ?_
        refine w_iconst (v := 3) (n' := 119) dX6_kindHere_118 rfl rfl ?_
        refine w_bipush (v := 104) (n' := 121) dX6_kindHere_119 rfl (by decide) ?_
        refine w_bipush (v := 105) (n' := 123) dX6_kindHere_121 rfl (by decide) ?_
        refine w_bipush (v := 110) (n' := 125) dX6_kindHere_123 rfl (by decide) ?_
        refine v_E (ci := 6) (n' := 128) dX6_kindHere_125 rfl lRX6_244 okX6_has3 voX6_has3 ⟨⟨Nat.le_of_ble_eq_true rfl, Nat.le_of_ble_eq_true rfl⟩, Nat.le_of_ble_eq_true rfl, Nat.le_of_ble_eq_true rfl⟩ (c6_has3 (d := 3) hT hT2 hf hf2 (by decide) _ _ _ _ rfl) rfl rfl (Nat.le_of_ble_eq_true rfl) rfl (Nat.le_of_ble_eq_true rfl) rfl ?_
        refine w_if_eq (n' := 131) (tgt := 147) dX6_kindHere_128 rfl rfl (fun h128 => ?_) (fun h128 => ?_)
        · have e5 : wI mem (BT mem T) f wMach = false := bB_0.mp (by rw [wMach, w7_eq, if_neg h100, if_neg h114, if_pos h128])
          exact kh_147 hT hT2 hf hf2 e0 e1 e2 e3 e4 e5
        · refine w_aload_n (i := 0) (n' := 132) dX6_kindHere_131 rfl rfl rfl ?_
          refine w_iconst (v := 4) (n' := 133) dX6_kindHere_132 rfl rfl ?_
          refine w_bipush (v := 105) (n' := 135) dX6_kindHere_133 rfl (by decide) ?_
          refine w_bipush (v := 110) (n' := 137) dX6_kindHere_135 rfl (by decide) ?_
          refine w_bipush (v := 101) (n' := 139) dX6_kindHere_137 rfl (by decide) ?_
          refine v_E (ci := 6) (n' := 142) dX6_kindHere_139 rfl lRX6_244 okX6_has3 voX6_has3 ⟨⟨Nat.le_of_ble_eq_true rfl, Nat.le_of_ble_eq_true rfl⟩, Nat.le_of_ble_eq_true rfl, Nat.le_of_ble_eq_true rfl⟩ (c6_has3 (d := 4) hT hT2 hf hf2 (by decide) _ _ _ _ rfl) rfl rfl (Nat.le_of_ble_eq_true rfl) rfl (Nat.le_of_ble_eq_true rfl) rfl ?_
          refine w_if_eq (n' := 145) (tgt := 147) dX6_kindHere_142 rfl rfl (fun h142 => ?_) (fun h142 => ?_)
          · have e5 : wI mem (BT mem T) f wMach = false := bB_0.mp (by rw [wMach, w7_eq, if_neg h100, if_neg h114, if_neg h128, if_pos h142])
            exact kh_147 hT hT2 hf hf2 e0 e1 e2 e3 e4 e5
          · have y5 : wI mem (BT mem T) f wMach = true := bB_n.mp (by rw [wMach, w7_eq, if_neg h100, if_neg h114, if_neg h128, if_neg h142]; decide)
            refine w_iconst (v := 5) (n' := 146) dX6_kindHere_145 rfl rfl ?_
            exact w_iret dX6_kindHere_146 rfl ⟨by rw [kdI, if_neg (by rw [e0]; decide), if_neg (by rw [e1]; decide), if_neg (by rw [e2]; decide), if_neg (by rw [e3]; decide), if_neg (by rw [e4]; decide), if_pos y5], rfl⟩
  · have y4 : wI mem (BT mem T) f wDeep = true := bB_n.mp h89
    refine w_iconst (v := 4) (n' := 93) dX6_kindHere_92 rfl rfl ?_
    exact w_iret dX6_kindHere_93 rfl ⟨by rw [kdI, if_neg (by rw [e0]; decide), if_neg (by rw [e1]; decide), if_neg (by rw [e2]; decide), if_neg (by rw [e3]; decide), if_pos y4], rfl⟩
set_option maxHeartbeats 4000000 in
theorem c6_kindHere {T f : Nat} {mem : Mem} (hT : mem 50 7 = nI T) (hT2 : T ≤ 120) (hf : mem 50 16 = nI f) (hf2 : f ≤ 120) : CnE mX6_kindHere [.ref 50] mem (some (.int (kdI (wI mem (BT mem T) f)))) mem := by
  refine Cn.of (ls := [some (.ref 50)]) (by decide) rfl (Nat.le_of_ble_eq_true rfl) ?_
  refine w_aload_n (i := 0) (n' := 1) dX6_kindHere_0 rfl rfl rfl ?_
  refine w_bipush (v := 102) (n' := 3) dX6_kindHere_1 rfl (by decide) ?_
  refine w_bipush (v := 97) (n' := 5) dX6_kindHere_3 rfl (by decide) ?_
  refine w_bipush (v := 114) (n' := 7) dX6_kindHere_5 rfl (by decide) ?_
  refine w_bipush (v := 109) (n' := 9) dX6_kindHere_7 rfl (by decide) ?_
  refine v_E (ci := 6) (n' := 12) dX6_kindHere_9 rfl lRX6_252 okX6_isFour voX6_isFour ⟨⟨Nat.le_of_ble_eq_true rfl, Nat.le_of_ble_eq_true rfl⟩, Nat.le_of_ble_eq_true rfl, Nat.le_of_ble_eq_true rfl⟩ (c6_isFour hT hT2 hf hf2 102 97 114 109) rfl rfl (Nat.le_of_ble_eq_true rfl) rfl (Nat.le_of_ble_eq_true rfl) rfl ?_
  refine w_if_eq (n' := 15) (tgt := 17) dX6_kindHere_12 rfl rfl (fun h12 => ?_) (fun h12 => ?_)
  · have e0 : wI mem (BT mem T) f wFarm = false := bB_0.mp h12
    refine w_aload_n (i := 0) (n' := 18) dX6_kindHere_17 rfl rfl rfl ?_
    refine w_bipush (v := 108) (n' := 20) dX6_kindHere_18 rfl (by decide) ?_
    refine w_bipush (v := 97) (n' := 22) dX6_kindHere_20 rfl (by decide) ?_
    refine w_bipush (v := 109) (n' := 24) dX6_kindHere_22 rfl (by decide) ?_
    refine w_bipush (v := 101) (n' := 26) dX6_kindHere_24 rfl (by decide) ?_
    refine v_E (ci := 6) (n' := 29) dX6_kindHere_26 rfl lRX6_252 okX6_isFour voX6_isFour ⟨⟨Nat.le_of_ble_eq_true rfl, Nat.le_of_ble_eq_true rfl⟩, Nat.le_of_ble_eq_true rfl, Nat.le_of_ble_eq_true rfl⟩ (c6_isFour hT hT2 hf hf2 108 97 109 101) rfl rfl (Nat.le_of_ble_eq_true rfl) rfl (Nat.le_of_ble_eq_true rfl) rfl ?_
    refine w_if_eq (n' := 32) (tgt := 34) dX6_kindHere_29 rfl rfl (fun h29 => ?_) (fun h29 => ?_)
    · have e1 : wI mem (BT mem T) f wLame = false := bB_0.mp h29
      refine w_aload_n (i := 0) (n' := 35) dX6_kindHere_34 rfl rfl rfl ?_
      refine w_bipush (v := 112) (n' := 37) dX6_kindHere_35 rfl (by decide) ?_
      refine w_bipush (v := 114) (n' := 39) dX6_kindHere_37 rfl (by decide) ?_
      refine w_bipush (v := 111) (n' := 41) dX6_kindHere_39 rfl (by decide) ?_
      refine w_bipush (v := 117) (n' := 43) dX6_kindHere_41 rfl (by decide) ?_
      refine w_bipush (v := 100) (n' := 45) dX6_kindHere_43 rfl (by decide) ?_
      refine v_E (ci := 6) (n' := 48) dX6_kindHere_45 rfl lRX6_255 okX6_isFive voX6_isFive ⟨⟨Nat.le_of_ble_eq_true rfl, Nat.le_of_ble_eq_true rfl⟩, Nat.le_of_ble_eq_true rfl, Nat.le_of_ble_eq_true rfl⟩ (c6_isFive hT hT2 hf hf2 112 114 111 117 100) rfl rfl (Nat.le_of_ble_eq_true rfl) rfl (Nat.le_of_ble_eq_true rfl) rfl ?_
      refine w_if_eq (n' := 51) (tgt := 53) dX6_kindHere_48 rfl rfl (fun h48 => ?_) (fun h48 => ?_)
      · have e2 : wI mem (BT mem T) f wProud = false := bB_0.mp h48
        refine w_aload_n (i := 0) (n' := 54) dX6_kindHere_53 rfl rfl rfl ?_
        refine w_iconst (v := 3) (n' := 55) dX6_kindHere_54 rfl rfl ?_
        refine v_E (ci := 6) (n' := 58) dX6_kindHere_55 rfl lRX6_241 okX6_isWord voX6_isWord ⟨⟨Nat.le_of_ble_eq_true rfl, Nat.le_of_ble_eq_true rfl⟩, Nat.le_of_ble_eq_true rfl, Nat.le_of_ble_eq_true rfl⟩ (c6_isWord _ _) rfl rfl (Nat.le_of_ble_eq_true rfl) rfl (Nat.le_of_ble_eq_true rfl) rfl ?_
        refine w_if_eq (n' := 61) (tgt := 77) dX6_kindHere_58 rfl rfl (fun h58 => ?_) (fun h58 => ?_)
        · have e3 : wI mem (BT mem T) f wSly = false := bB_0.mp (by rw [wSly, w3_eq, if_pos h58])
          exact kh_77 hT hT2 hf hf2 e0 e1 e2 e3
        · refine w_aload_n (i := 0) (n' := 62) dX6_kindHere_61 rfl rfl rfl ?_
          refine w_iconst (v := 0) (n' := 63) dX6_kindHere_62 rfl rfl ?_
          refine w_bipush (v := 115) (n' := 65) dX6_kindHere_63 rfl (by decide) ?_
          refine w_bipush (v := 108) (n' := 67) dX6_kindHere_65 rfl (by decide) ?_
          refine w_bipush (v := 121) (n' := 69) dX6_kindHere_67 rfl (by decide) ?_
          refine v_E (ci := 6) (n' := 72) dX6_kindHere_69 rfl lRX6_244 okX6_has3 voX6_has3 ⟨⟨Nat.le_of_ble_eq_true rfl, Nat.le_of_ble_eq_true rfl⟩, Nat.le_of_ble_eq_true rfl, Nat.le_of_ble_eq_true rfl⟩ (c6_has3 (d := 0) hT hT2 hf hf2 (by decide) _ _ _ _ rfl) rfl rfl (Nat.le_of_ble_eq_true rfl) rfl (Nat.le_of_ble_eq_true rfl) rfl ?_
          refine w_if_eq (n' := 75) (tgt := 77) dX6_kindHere_72 rfl rfl (fun h72 => ?_) (fun h72 => ?_)
          · have e3 : wI mem (BT mem T) f wSly = false := bB_0.mp (by rw [wSly, w3_eq, if_neg h58, if_pos h72])
            exact kh_77 hT hT2 hf hf2 e0 e1 e2 e3
          · have y3 : wI mem (BT mem T) f wSly = true := bB_n.mp (by rw [wSly, w3_eq, if_neg h58, if_neg h72]; decide)
            refine w_iconst (v := 3) (n' := 76) dX6_kindHere_75 rfl rfl ?_
            exact w_iret dX6_kindHere_76 rfl ⟨by rw [kdI, if_neg (by rw [e0]; decide), if_neg (by rw [e1]; decide), if_neg (by rw [e2]; decide), if_pos y3], rfl⟩
      · have y2 : wI mem (BT mem T) f wProud = true := bB_n.mp h48
        refine w_iconst (v := 2) (n' := 52) dX6_kindHere_51 rfl rfl ?_
        exact w_iret dX6_kindHere_52 rfl ⟨by rw [kdI, if_neg (by rw [e0]; decide), if_neg (by rw [e1]; decide), if_pos y2], rfl⟩
    · have y1 : wI mem (BT mem T) f wLame = true := bB_n.mp h29
      refine w_iconst (v := 1) (n' := 33) dX6_kindHere_32 rfl rfl ?_
      exact w_iret dX6_kindHere_33 rfl ⟨by rw [kdI, if_neg (by rw [e0]; decide), if_pos y1], rfl⟩
  · have y0 : wI mem (BT mem T) f wFarm = true := bB_n.mp h12
    refine w_iconst (v := 0) (n' := 16) dX6_kindHere_15 rfl rfl ?_
    exact w_iret dX6_kindHere_16 rfl ⟨by rw [kdI, if_pos y0], rfl⟩

set_option maxRecDepth 100000 in
set_option maxHeartbeats 4000000 in
theorem c_M_numbers {G : XG} {q : Nat → Nat} {x : Nat → Int32} {f : Nat → Nat → Int32} {kl : va_W} {len ln : Nat} {st : Nat → Nat} {B : Nat → Int32} (ht : mtx x f len ln st B) (hby : bfit B len) {a a2 b b2 : Nat} (ha : a ≤ len) (ha2 : a2 ≤ len) (hb : b ≤ len) (hb2 : b2 ≤ len) : MR G m_M_numbers (xr 5 0 0) [.ref (q 0), .int (nI a), .int (nI a2), .int (nI b), .int (nI b2)] (wM G q x f kl) (some (.int (oI (nc B a a2 b b2)))) := by
  obtain ⟨hx0, hl0, hln, hst, hse, hB⟩ := id ht
  have z1 := nm_whole_le (B := B) ha ha2
  have z2 := nm_whole_le (B := B) hb hb2
  refine MR.of rfl (xn_le rfl) ?_
  refine (?_ : XR G m_M_numbers (xr 5 0 0) (xr_F (some (.int (oI (nc B a a2 b b2))))) (wM G q x f kl) 0 [(0, .ref (q 0)), (1, .int (nI a)), (2, .int (nI a2)), (3, .int (nI b)), (4, .int (nI b2))] [])
  refine XR.aload_n dd_M_numbers_0 rfl 0 rfl ?_
  refine XR.iload_n dd_M_numbers_1 rfl 1 rfl ?_
  refine XR.iload_n dd_M_numbers_2 rfl 2 rfl ?_
  refine XR.callV (Mk := m_M_sign) (n := 2) (As := [.int (nI a), .int (nI a2)]) (rest := []) (q0 := 0) (ci := 9) (c_M_sign ht hby (a := a) (e := a2) (by omega) (by omega)) mt_M_sign mi_M_sign ml_M_162 rfl dd_M_numbers_3 (rfl) rfl rfl ⟨xn_le rfl, xn_le rfl⟩ (xn_le rfl) rfl ?_
  refine XR.tp (y := nm_sign B a2 a) (msg_eq hby (by omega)) ?_
  refine XR.istore (lv2 := [(5, .int (nm_sign B a2 a)), (0, .ref (q 0)), (1, .int (nI a)), (2, .int (nI a2)), (3, .int (nI b)), (4, .int (nI b2))]) dd_M_numbers_6 (by decide) rfl ?_
  refine XR.aload_n dd_M_numbers_8 rfl 1 rfl ?_
  refine XR.iload_n dd_M_numbers_9 rfl 4 rfl ?_
  refine XR.iload dd_M_numbers_10 5 rfl ?_
  refine XR.callV (Mk := m_M_sign) (n := 2) (As := [.int (nI b), .int (nI b2)]) (rest := []) (q0 := 0) (ci := 9) (c_M_sign ht hby (a := b) (e := b2) (by omega) (by omega)) mt_M_sign mi_M_sign ml_M_162 rfl dd_M_numbers_12 (rfl) rfl rfl ⟨xn_le rfl, xn_le rfl⟩ (xn_le rfl) rfl ?_
  refine XR.tp (y := nm_sign B b2 b) (msg_eq hby (by omega)) ?_
  refine XR.istore (lv2 := [(6, .int (nm_sign B b2 b)), (5, .int (nm_sign B a2 a)), (0, .ref (q 0)), (1, .int (nI a)), (2, .int (nI a2)), (3, .int (nI b)), (4, .int (nI b2))]) dd_M_numbers_15 (by decide) rfl ?_
  refine XR.iload dd_M_numbers_17 1 rfl ?_
  refine XR.iload dd_M_numbers_19 0 rfl ?_
  refine XR.icmp_eq (tgt := 37) dd_M_numbers_21 (by decide) (fun h21 => ?_) (fun h21 => ?_)
  ·
    refine XR.iload dd_M_numbers_37 1 rfl ?_
    refine XR.if_ne (tgt := 46) dd_M_numbers_39 (by decide) (fun h39 => ?_) (fun h39 => ?_)
    ·
      refine XR.iload dd_M_numbers_46 1 rfl ?_
      refine XR.aload_n dd_M_numbers_48 rfl 2 rfl ?_
      refine XR.aload_n dd_M_numbers_49 rfl 2 rfl ?_
      refine XR.iload_n dd_M_numbers_50 rfl 3 rfl ?_
      refine XR.iload_n dd_M_numbers_51 rfl 4 rfl ?_
      refine XR.callV (Mk := m_M_wholeAt) (n := 2) (As := [.int (nI a), .int (nI a2)]) (rest := [.ref (q 0), .int (nm_sign B a2 a)]) (q0 := 0) (ci := 9) (c_M_wholeAt ht hby (a := a) (e := a2) (by omega) (by omega)) mt_M_wholeAt mi_M_wholeAt ml_M_156 rfl dd_M_numbers_52 (rfl) rfl rfl ⟨xn_le rfl, xn_le rfl⟩ (xn_le rfl) rfl ?_
      refine XR.iload_n dd_M_numbers_55 rfl 4 rfl ?_
      refine XR.aload_n dd_M_numbers_56 rfl 2 rfl ?_
      refine XR.iload_n dd_M_numbers_57 rfl 5 rfl ?_
      refine XR.iload dd_M_numbers_58 6 rfl ?_
      refine XR.callV (Mk := m_M_wholeAt) (n := 2) (As := [.int (nI b), .int (nI b2)]) (rest := [.int (nI a2), .int (nI (nm_whole B a2 a)), .ref (q 0), .int (nm_sign B a2 a)]) (q0 := 0) (ci := 9) (c_M_wholeAt ht hby (a := b) (e := b2) (by omega) (by omega)) mt_M_wholeAt mi_M_wholeAt ml_M_156 rfl dd_M_numbers_60 (rfl) rfl rfl ⟨xn_le rfl, xn_le rfl⟩ (xn_le rfl) rfl ?_
      refine XR.iload dd_M_numbers_63 6 rfl ?_
      refine XR.callV (Mk := m_M_sizes) (n := 4) (As := [.int (nI (nm_whole B a2 a)), .int (nI a2), .int (nI (nm_whole B b2 b)), .int (nI b2)]) (rest := [.int (nm_sign B a2 a)]) (q0 := 0) (ci := 9) (c_M_sizes ht (a := nm_whole B a2 a) (a2 := a2) (b := nm_whole B b2 b) (b2 := b2) (by omega) (by omega) (by omega) (by omega)) mt_M_sizes mi_M_sizes ml_M_165 rfl dd_M_numbers_65 (rfl) rfl rfl ⟨xn_le rfl, xn_le rfl⟩ (xn_le rfl) rfl ?_
      refine XR.tp (y := oI (nc_m B a a2 b b2)) (by rw [msz_eq hby ha2 hb2]) ?_
      refine XR.imul dd_M_numbers_68 ?_
      refine XR.tp (y := oI (nc B a a2 b b2)) (nc_mul h21 h39) ?_
      exact XR.iret dd_M_numbers_69 rfl
    ·
      refine XR.iconst (v := nI 0) dd_M_numbers_42 (by decide) ?_
      refine XR.goto (tgt := 69) dd_M_numbers_43 (by decide) ?_
      refine XR.tp (y := oI (nc B a a2 b b2)) (by rw [nc_0 h39 (h21 ▸ h39)]; rfl) ?_
      exact XR.iret dd_M_numbers_69 rfl
  ·
    refine XR.iload dd_M_numbers_24 1 rfl ?_
    refine XR.iload dd_M_numbers_26 0 rfl ?_
    refine XR.icmp_ge (tgt := 35) dd_M_numbers_28 (by decide) (fun h28 => ?_) (fun h28 => ?_)
    ·
      refine XR.iconst (v := nI 1) dd_M_numbers_35 (by decide) ?_
      refine XR.tp (y := oI (nc B a a2 b b2)) (by rw [nc_ne h21, oi_ge h21 h28]) ?_
      exact XR.iret dd_M_numbers_36 rfl
    ·
      refine XR.iconst (v := -1) dd_M_numbers_31 (by decide) ?_
      refine XR.goto (tgt := 36) dd_M_numbers_32 (by decide) ?_
      refine XR.tp (y := oI (nc B a a2 b b2)) (by rw [nc_ne h21, oi_lt h28]) ?_
      exact XR.iret dd_M_numbers_36 rfl

set_option maxRecDepth 100000 in
set_option maxHeartbeats 4000000 in
theorem c_M_from {G : XG} {q : Nat → Nat} {x : Nat → Int32} {f : Nat → Nat → Int32} {kl : va_W} {len ln : Nat} {st : Nat → Nat} {B : Nat → Int32} (ht : mtx x f len ln st B) {sep : Int32} (hx6 : x 6 = sep) {kc : Nat} {kd : Nat → Nat → Nat} {kg : Nat → Int32} {all : Int32} (hk : mky x f kc kd kg) (hx3 : x 3 = all) {hd : Bool} (hx10 : x 10 = bI hd) (hhd : hd = true → ln ≤ 1000 ∧ ∀ l k, l < ln → k < max 1 kc → f 3 (6 * l + k) = nI (ky_begin B sep (ky_fl (kgu kc kg k) all) (kdu kc kd k 0) (kdu kc kd k 1) (st l) (men len st l)) ∧ f 4 (6 * l + k) = nI (ky_end B sep (ky_fl (kgu kc kg k) all) (kdu kc kd k 2) (kdu kc kd k 3) (st l) (men len st l))) {l k : Nat} (hl : l < ln) (hkk : k < max 1 kc) : MM G m_M_from (xr 3 0 0) [.ref (q 0), .int (nI l), .int (nI k)] (wM G q x f kl) (fun r w => r = some (.int (nI (ky_begin B sep (ky_fl (kgu kc kg k) all) (kdu kc kd k 0) (kdu kc kd k 1) (st l) (men len st l)))) ∧ ∃ x2 : Nat → Int32, w = wM G q x2 f kl ∧ agF x x2) := by
  obtain ⟨hx0, hl0, hln, hst, hse, hB⟩ := id ht
  have hkc := hk.2.1
  refine MM.of rfl (xn_le rfl) ?_
  refine (?_ : XX G m_M_from (xr 3 0 0) (xx_F G (fun r w => r = some (.int (nI (ky_begin B sep (ky_fl (kgu kc kg k) all) (kdu kc kd k 0) (kdu kc kd k 1) (st l) (men len st l)))) ∧ ∃ x2 : Nat → Int32, w = wM G q x2 f kl ∧ agF x x2) (xr 3 0 0)) 0 0 (wM G q x f kl) 0 [(0, .ref (q 0)), (1, .int (nI l)), (2, .int (nI k))] [])
  refine XX.aload_n dd_M_from_0 rfl 0 rfl ?_
  refine XX.get (q0 := 0) (v := .int (x 10)) fl_M_126 dd_M_from_1 rfl rfl ?_
  refine XX.tp (y := bI hd) (hx10) ?_
  refine XX.bif_eq (tgt := 21) dd_M_from_4 (by decide) (fun h4 => ?_) (fun h4 => ?_)
  ·
    refine XX.aload_n dd_M_from_21 rfl 0 rfl ?_
    refine XX.iload_n dd_M_from_22 rfl 1 rfl ?_
    refine XX.iload_n dd_M_from_23 rfl 2 rfl ?_
    refine XX.callV (Mk := m_M_keyBegin) (n := 2) (As := [.int (nI l), .int (nI k)]) (rest := []) (q0 := 0) (ci := 9) (c_M_keyBegin ht hx6 hk hx3 (l := l) (k := k) hl hkk) mt_M_keyBegin mi_M_keyBegin ml_M_129 rfl dd_M_from_24 (rfl) rfl rfl ⟨xn_le rfl, xn_le rfl⟩ ⟨xn_le rfl, xn_le rfl⟩ (xn_le rfl) rfl (fun r1 w1 hp1 => ?_)
    obtain ⟨rfl, x2, rfl, hg⟩ := hp1
    refine (?_ : XX G m_M_from (xr 3 0 0) (xx_F G (fun r w => r = some (.int (nI (ky_begin B sep (ky_fl (kgu kc kg k) all) (kdu kc kd k 0) (kdu kc kd k 1) (st l) (men len st l)))) ∧ ∃ x2 : Nat → Int32, w = wM G q x2 f kl ∧ agF x x2) (xr 3 0 0)) 0 0 (wM G q x2 f kl) 27 [(0, .ref (q 0)), (1, .int (nI l)), (2, .int (nI k))] [.int (nI (ky_begin B sep (ky_fl (kgu kc kg k) all) (kdu kc kd k 0) (kdu kc kd k 1) (st l) (men len st l)))])
    exact XX.iret dd_M_from_27 rfl ⟨xn_le rfl, xn_le rfl⟩ ⟨rfl, x2, rfl, hg⟩
  ·
    have hln2 := (hhd h4).1
    refine XX.aload_n dd_M_from_7 rfl 0 rfl ?_
    refine XX.get (q0 := 0) (v := .ref (q 4)) fl_M_30 dd_M_from_8 rfl rfl ?_
    refine XX.bipush (v := nI 6) dd_M_from_11 (by decide) ?_
    refine XX.iload_n dd_M_from_13 rfl 1 rfl ?_
    refine XX.imul dd_M_from_14 ?_
    refine XX.tp (y := nI (6 * l)) (pk_mul _ _) ?_
    refine XX.iload_n dd_M_from_15 rfl 2 rfl ?_
    refine XX.iadd dd_M_from_16 ?_
    refine XX.tp (y := nI (6 * l + k)) (nI_add _ _) ?_
    refine XX.iald (q0 := 4) (n := 6000) (j := 6 * l + k) (f := f 3) dd_M_from_17 rfl (by omega) (by decide) ?_
    refine XX.tp (y := nI (ky_begin B sep (ky_fl (kgu kc kg k) all) (kdu kc kd k 0) (kdu kc kd k 1) (st l) (men len st l))) (((hhd h4).2 l k hl hkk).1) ?_
    refine XX.goto (tgt := 27) dd_M_from_18 (by decide) ?_
    exact XX.iret dd_M_from_27 rfl ⟨xn_le rfl, xn_le rfl⟩ ⟨rfl, x, rfl, fun _ _ _ => rfl⟩

set_option maxRecDepth 100000 in
set_option maxHeartbeats 4000000 in
theorem c_M_to {G : XG} {q : Nat → Nat} {x : Nat → Int32} {f : Nat → Nat → Int32} {kl : va_W} {len ln : Nat} {st : Nat → Nat} {B : Nat → Int32} (ht : mtx x f len ln st B) {sep : Int32} (hx6 : x 6 = sep) {kc : Nat} {kd : Nat → Nat → Nat} {kg : Nat → Int32} {all : Int32} (hk : mky x f kc kd kg) (hx3 : x 3 = all) {hd : Bool} (hx10 : x 10 = bI hd) (hhd : hd = true → ln ≤ 1000 ∧ ∀ l k, l < ln → k < max 1 kc → f 3 (6 * l + k) = nI (ky_begin B sep (ky_fl (kgu kc kg k) all) (kdu kc kd k 0) (kdu kc kd k 1) (st l) (men len st l)) ∧ f 4 (6 * l + k) = nI (ky_end B sep (ky_fl (kgu kc kg k) all) (kdu kc kd k 2) (kdu kc kd k 3) (st l) (men len st l))) {l k : Nat} (hl : l < ln) (hkk : k < max 1 kc) : MM G m_M_to (xr 3 0 0) [.ref (q 0), .int (nI l), .int (nI k)] (wM G q x f kl) (fun r w => r = some (.int (nI (ky_end B sep (ky_fl (kgu kc kg k) all) (kdu kc kd k 2) (kdu kc kd k 3) (st l) (men len st l)))) ∧ ∃ x2 : Nat → Int32, w = wM G q x2 f kl ∧ agF x x2) := by
  obtain ⟨hx0, hl0, hln, hst, hse, hB⟩ := id ht
  have hkc := hk.2.1
  refine MM.of rfl (xn_le rfl) ?_
  refine (?_ : XX G m_M_to (xr 3 0 0) (xx_F G (fun r w => r = some (.int (nI (ky_end B sep (ky_fl (kgu kc kg k) all) (kdu kc kd k 2) (kdu kc kd k 3) (st l) (men len st l)))) ∧ ∃ x2 : Nat → Int32, w = wM G q x2 f kl ∧ agF x x2) (xr 3 0 0)) 0 0 (wM G q x f kl) 0 [(0, .ref (q 0)), (1, .int (nI l)), (2, .int (nI k))] [])
  refine XX.aload_n dd_M_to_0 rfl 0 rfl ?_
  refine XX.get (q0 := 0) (v := .int (x 10)) fl_M_126 dd_M_to_1 rfl rfl ?_
  refine XX.tp (y := bI hd) (hx10) ?_
  refine XX.bif_eq (tgt := 21) dd_M_to_4 (by decide) (fun h4 => ?_) (fun h4 => ?_)
  ·
    refine XX.aload_n dd_M_to_21 rfl 0 rfl ?_
    refine XX.iload_n dd_M_to_22 rfl 1 rfl ?_
    refine XX.iload_n dd_M_to_23 rfl 2 rfl ?_
    refine XX.callV (Mk := m_M_keyEnd) (n := 2) (As := [.int (nI l), .int (nI k)]) (rest := []) (q0 := 0) (ci := 9) (c_M_keyEnd ht hx6 hk hx3 (l := l) (k := k) hl hkk) mt_M_keyEnd mi_M_keyEnd ml_M_132 rfl dd_M_to_24 (rfl) rfl rfl ⟨xn_le rfl, xn_le rfl⟩ ⟨xn_le rfl, xn_le rfl⟩ (xn_le rfl) rfl (fun r1 w1 hp1 => ?_)
    obtain ⟨rfl, x2, rfl, hg⟩ := hp1
    refine (?_ : XX G m_M_to (xr 3 0 0) (xx_F G (fun r w => r = some (.int (nI (ky_end B sep (ky_fl (kgu kc kg k) all) (kdu kc kd k 2) (kdu kc kd k 3) (st l) (men len st l)))) ∧ ∃ x2 : Nat → Int32, w = wM G q x2 f kl ∧ agF x x2) (xr 3 0 0)) 0 0 (wM G q x2 f kl) 27 [(0, .ref (q 0)), (1, .int (nI l)), (2, .int (nI k))] [.int (nI (ky_end B sep (ky_fl (kgu kc kg k) all) (kdu kc kd k 2) (kdu kc kd k 3) (st l) (men len st l)))])
    exact XX.iret dd_M_to_27 rfl ⟨xn_le rfl, xn_le rfl⟩ ⟨rfl, x2, rfl, hg⟩
  ·
    have hln2 := (hhd h4).1
    refine XX.aload_n dd_M_to_7 rfl 0 rfl ?_
    refine XX.get (q0 := 0) (v := .ref (q 5)) fl_M_33 dd_M_to_8 rfl rfl ?_
    refine XX.bipush (v := nI 6) dd_M_to_11 (by decide) ?_
    refine XX.iload_n dd_M_to_13 rfl 1 rfl ?_
    refine XX.imul dd_M_to_14 ?_
    refine XX.tp (y := nI (6 * l)) (pk_mul _ _) ?_
    refine XX.iload_n dd_M_to_15 rfl 2 rfl ?_
    refine XX.iadd dd_M_to_16 ?_
    refine XX.tp (y := nI (6 * l + k)) (nI_add _ _) ?_
    refine XX.iald (q0 := 5) (n := 6000) (j := 6 * l + k) (f := f 4) dd_M_to_17 rfl (by omega) (by decide) ?_
    refine XX.tp (y := nI (ky_end B sep (ky_fl (kgu kc kg k) all) (kdu kc kd k 2) (kdu kc kd k 3) (st l) (men len st l))) (((hhd h4).2 l k hl hkk).2) ?_
    refine XX.goto (tgt := 27) dd_M_to_18 (by decide) ?_
    exact XX.iret dd_M_to_27 rfl ⟨xn_le rfl, xn_le rfl⟩ ⟨rfl, x, rfl, fun _ _ _ => rfl⟩

set_option maxRecDepth 100000 in
set_option maxHeartbeats 4000000 in
theorem c_M_byKeys {G : XG} {q : Nat → Nat} {x : Nat → Int32} {f : Nat → Nat → Int32} {kl : va_W} {len ln : Nat} {st : Nat → Nat} {B : Nat → Int32} (ht : mtx x f len ln st B) (hby : bfit B len) {sep : Int32} (hx6 : x 6 = sep) {kc : Nat} {kd : Nat → Nat → Nat} {kg : Nat → Int32} {all : Int32} (hk : mky x f kc kd kg) (hx3 : x 3 = all) {hd : Bool} (hx10 : x 10 = bI hd) (hhd : hd = true → ln ≤ 1000 ∧ ∀ l k, l < ln → k < max 1 kc → f 3 (6 * l + k) = nI (ky_begin B sep (ky_fl (kgu kc kg k) all) (kdu kc kd k 0) (kdu kc kd k 1) (st l) (men len st l)) ∧ f 4 (6 * l + k) = nI (ky_end B sep (ky_fl (kgu kc kg k) all) (kdu kc kd k 2) (kdu kc kd k 3) (st l) (men len st l))) {la lb : Nat} (hla : la < ln) (hlb : lb < ln) : MM G m_M_byKeys (xr 6 0 0) [.ref (q 0), .int (nI la), .int (nI lb)] (wM G q x f kl) (fun r w => r = some (.int (oI (oks B sep all kc kd kg (st la) (men len st la) (st lb) (men len st lb)))) ∧ ∃ x2 : Nat → Int32, w = wM G q x2 f kl ∧ agF x x2) := by
  obtain ⟨hx0, hl0, hln, hst, hse, hB⟩ := id ht
  have hkc := hk.2.1
  have hsa := (hse la hla).2
  have hsb := (hse lb hlb).2
  have hma := men_le len st la
  have hmb := men_le len st lb
  refine MM.of rfl (xn_le rfl) ?_
  refine (?_ : XX G m_M_byKeys (xr 6 0 0) (xx_F G (fun r w => r = some (.int (oI (oks B sep all kc kd kg (st la) (men len st la) (st lb) (men len st lb)))) ∧ ∃ x2 : Nat → Int32, w = wM G q x2 f kl ∧ agF x x2) (xr 6 0 0)) 0 0 (wM G q x f kl) 0 [(0, .ref (q 0)), (1, .int (nI la)), (2, .int (nI lb))] [])
  have loop : ∀ (kk k : Nat) (xx : Nat → Int32), max 1 kc - k = kk → k ≤ max 1 kc → agF x xx → okf (oky B sep all kc kd kg (st la) (men len st la) (st lb) (men len st lb)) (max 1 kc - k) k = oks B sep all kc kd kg (st la) (men len st la) (st lb) (men len st lb) → XX G m_M_byKeys (xr 6 0 0) (xx_F G (fun r w => r = some (.int (oI (oks B sep all kc kd kg (st la) (men len st la) (st lb) (men len st lb)))) ∧ ∃ x2 : Nat → Int32, w = wM G q x2 f kl ∧ agF x x2) (xr 6 0 0)) 0 0 (wM G q xx f kl) 2 [(0, .ref (q 0)), (1, .int (nI la)), (2, .int (nI lb)), (3, .int (nI k))] [] := by
    intro kk
    induction kk using Nat.strongRecOn with
    | _ kk ih =>
      intro k xx hkk hk1 hg hr
      have hta : mtx xx f len ln st B := mtx_mv ht (hg 0 (by omega) (by omega))
      have hka : mky xx f kc kd kg := mky_mv hk (hg 7 (by omega) (by omega))
      have h3a : xx 3 = all := (hg 3 (by omega) (by omega)).trans hx3
      have h6a : xx 6 = sep := (hg 6 (by omega) (by omega)).trans hx6
      have h10a : xx 10 = bI hd := (hg 10 (by omega) (by omega)).trans hx10
      have j87 : k < max 1 kc → ∀ x9 : Nat → Int32, agF x x9 → XX G m_M_byKeys (xr 6 0 0) (xx_F G (fun r w => r = some (.int (oI (oks B sep all kc kd kg (st la) (men len st la) (st lb) (men len st lb)))) ∧ ∃ x2 : Nat → Int32, w = wM G q x2 f kl ∧ agF x x2) (xr 6 0 0)) 0 0 (wM G q x9 f kl) 87 [(0, .ref (q 0)), (1, .int (nI la)), (2, .int (nI lb)), (3, .int (nI k)), (4, .int (ky_fl (kgu kc kg k) all)), (5, .int (nI (ky_begin B sep (ky_fl (kgu kc kg k) all) (kdu kc kd k 0) (kdu kc kd k 1) (st la) (men len st la)))), (6, .int (nI (ky_begin B sep (ky_fl (kgu kc kg k) all) (kdu kc kd k 0) (kdu kc kd k 1) (st lb) (men len st lb))))] [.int (oI (kc_b B sep (ky_fl (kgu kc kg k) all) (kdu kc kd k 0) (kdu kc kd k 1) (kdu kc kd k 2) (kdu kc kd k 3) (st la) (men len st la) (st lb) (men len st lb)))] := by
        intro hlt x9 hg9
        refine XX.istore (lv2 := [(7, .int (oI (kc_b B sep (ky_fl (kgu kc kg k) all) (kdu kc kd k 0) (kdu kc kd k 1) (kdu kc kd k 2) (kdu kc kd k 3) (st la) (men len st la) (st lb) (men len st lb)))), (0, .ref (q 0)), (1, .int (nI la)), (2, .int (nI lb)), (3, .int (nI k)), (4, .int (ky_fl (kgu kc kg k) all)), (5, .int (nI (ky_begin B sep (ky_fl (kgu kc kg k) all) (kdu kc kd k 0) (kdu kc kd k 1) (st la) (men len st la)))), (6, .int (nI (ky_begin B sep (ky_fl (kgu kc kg k) all) (kdu kc kd k 0) (kdu kc kd k 1) (st lb) (men len st lb))))]) dd_M_byKeys_87 (by decide) rfl ?_
        refine XX.iload dd_M_byKeys_89 0 rfl ?_
        refine XX.if_eq (tgt := 111) dd_M_byKeys_91 (by decide) (fun h91 => ?_) (fun h91 => ?_)
        ·
          refine XX.iinc (z := 4) (v := nI (k + 1)) (lv2 := [(3, .int (nI (k + 1))), (7, .int (oI (kc_b B sep (ky_fl (kgu kc kg k) all) (kdu kc kd k 0) (kdu kc kd k 1) (kdu kc kd k 2) (kdu kc kd k 3) (st la) (men len st la) (st lb) (men len st lb)))), (0, .ref (q 0)), (1, .int (nI la)), (2, .int (nI lb)), (4, .int (ky_fl (kgu kc kg k) all)), (5, .int (nI (ky_begin B sep (ky_fl (kgu kc kg k) all) (kdu kc kd k 0) (kdu kc kd k 1) (st la) (men len st la)))), (6, .int (nI (ky_begin B sep (ky_fl (kgu kc kg k) all) (kdu kc kd k 0) (kdu kc kd k 1) (st lb) (men len st lb))))]) dd_M_byKeys_111 rfl ((nI_succ _).symm) (by decide) rfl ?_
          refine XX.goto (tgt := 2) dd_M_byKeys_114 (by decide) ?_
          refine XX.lvs [2, 3, 4, 0] rfl ?_
          exact ih _ (by omega) (k + 1) x9 rfl (by omega) hg9 (by rw [← hr, okf_s hlt, oky, then_eq (kc_r0.mpr h91)])
        ·
          refine XX.iload dd_M_byKeys_94 5 rfl ?_
          refine XX.bipush (v := nI 32) dd_M_byKeys_96 (by decide) ?_
          refine XX.iand dd_M_byKeys_98 ?_
          refine XX.if_le (tgt := 108) dd_M_byKeys_99 (by decide) (fun h99 => ?_) (fun h99 => ?_)
          ·
            refine XX.iload dd_M_byKeys_108 0 rfl ?_
            refine XX.tp (y := oI (oks B sep all kc kd kg (st la) (men len st la) (st lb) (men len st lb))) (by rw [← hr, okf_s hlt, oky, then_ne (fun z => h91 (kc_r0.mp z))]; rw [kc_r, if_pos ((and_le (by decide)).mp h99)]) ?_
            exact XX.iret dd_M_byKeys_110 rfl ⟨xn_le rfl, xn_le rfl⟩ ⟨rfl, x9, rfl, hg9⟩
          ·
            refine XX.iload dd_M_byKeys_102 0 rfl ?_
            refine XX.ineg dd_M_byKeys_104 ?_
            refine XX.goto (tgt := 110) dd_M_byKeys_105 (by decide) ?_
            refine XX.tp (y := oI (oks B sep all kc kd kg (st la) (men len st la) (st lb) (men len st lb))) (by rw [← hr, okf_s hlt, oky, then_ne (fun z => h91 (kc_r0.mp z))]; rw [kc_r, if_neg (fun z => h99 ((and_le (by decide)).mpr z)), oI_neg]) ?_
            exact XX.iret dd_M_byKeys_110 rfl ⟨xn_le rfl, xn_le rfl⟩ ⟨rfl, x9, rfl, hg9⟩
      refine XX.iload_n dd_M_byKeys_2 rfl 3 rfl ?_
      refine XX.aload_n dd_M_byKeys_3 rfl 0 rfl ?_
      refine XX.callVr (Mk := m_M_keysThere) (n := 0) (As := []) (rest := [.int (nI k)]) (q0 := 0) (ci := 9) (c_M_keysThere hka) mt_M_keysThere mi_M_keysThere ml_M_168 rfl dd_M_byKeys_4 (rfl) rfl rfl ⟨xn_le rfl, xn_le rfl⟩ ⟨xn_le rfl, xn_le rfl⟩ (xn_le rfl) rfl ?_
      refine XX.ncmp_ge (tgt := 117) dd_M_byKeys_7 (by decide) (by omega) (by omega) (fun h7 => ?_) (fun h7 => ?_)
      ·
        refine XX.iconst (v := nI 0) dd_M_byKeys_117 (by decide) ?_
        refine XX.tp (y := oI (oks B sep all kc kd kg (st la) (men len st la) (st lb) (men len st lb))) (by rw [← hr, okf_0 (by omega)]; rfl) ?_
        exact XX.iret dd_M_byKeys_118 rfl ⟨xn_le rfl, xn_le rfl⟩ ⟨rfl, xx, rfl, hg⟩
      ·
        refine XX.aload_n dd_M_byKeys_10 rfl 0 rfl ?_
        refine XX.iload_n dd_M_byKeys_11 rfl 3 rfl ?_
        refine XX.iconst (v := nI 4) dd_M_byKeys_12 (by decide) ?_
        refine XX.callVr (Mk := m_M_keyOf) (n := 2) (As := [.int (nI k), .int (nI 4)]) (rest := []) (q0 := 0) (ci := 9) (c_M_keyOf4 hka h3a (k := k) (by omega)) mt_M_keyOf mi_M_keyOf ml_M_114 rfl dd_M_byKeys_13 (rfl) rfl rfl ⟨xn_le rfl, xn_le rfl⟩ ⟨xn_le rfl, xn_le rfl⟩ (xn_le rfl) rfl ?_
        refine XX.istore (lv2 := [(4, .int (ky_fl (kgu kc kg k) all)), (0, .ref (q 0)), (1, .int (nI la)), (2, .int (nI lb)), (3, .int (nI k))]) dd_M_byKeys_16 (by decide) rfl ?_
        refine XX.aload_n dd_M_byKeys_18 rfl 1 rfl ?_
        refine XX.iload_n dd_M_byKeys_19 rfl 2 rfl ?_
        refine XX.iload_n dd_M_byKeys_20 rfl 4 rfl ?_
        refine XX.callV (Mk := m_M_from) (n := 2) (As := [.int (nI la), .int (nI k)]) (rest := []) (q0 := 0) (ci := 9) (c_M_from hta h6a hka h3a h10a hhd (l := la) (k := k) hla (by omega)) mt_M_from mi_M_from ml_M_172 rfl dd_M_byKeys_21 (rfl) rfl rfl ⟨xn_le rfl, xn_le rfl⟩ ⟨xn_le rfl, xn_le rfl⟩ (xn_le rfl) rfl (fun r1 w1 hp1 => ?_)
        obtain ⟨rfl, y1, rfl, hq1⟩ := hp1
        have hgb : agF x y1 := fun i h1 h2 => (hq1 i h1 h2).trans (hg i h1 h2)
        have htb : mtx y1 f len ln st B := mtx_mv ht (hgb 0 (by omega) (by omega))
        have hkb : mky y1 f kc kd kg := mky_mv hk (hgb 7 (by omega) (by omega))
        have h3b : y1 3 = all := (hgb 3 (by omega) (by omega)).trans hx3
        have h6b : y1 6 = sep := (hgb 6 (by omega) (by omega)).trans hx6
        have h10b : y1 10 = bI hd := (hgb 10 (by omega) (by omega)).trans hx10
        refine (?_ : XX G m_M_byKeys (xr 6 0 0) (xx_F G (fun r w => r = some (.int (oI (oks B sep all kc kd kg (st la) (men len st la) (st lb) (men len st lb)))) ∧ ∃ x2 : Nat → Int32, w = wM G q x2 f kl ∧ agF x x2) (xr 6 0 0)) 0 0 (wM G q y1 f kl) 24 [(4, .int (ky_fl (kgu kc kg k) all)), (0, .ref (q 0)), (1, .int (nI la)), (2, .int (nI lb)), (3, .int (nI k))] [.int (nI (ky_begin B sep (ky_fl (kgu kc kg k) all) (kdu kc kd k 0) (kdu kc kd k 1) (st la) (men len st la)))])
        refine XX.istore (lv2 := [(5, .int (nI (ky_begin B sep (ky_fl (kgu kc kg k) all) (kdu kc kd k 0) (kdu kc kd k 1) (st la) (men len st la)))), (4, .int (ky_fl (kgu kc kg k) all)), (0, .ref (q 0)), (1, .int (nI la)), (2, .int (nI lb)), (3, .int (nI k))]) dd_M_byKeys_24 (by decide) rfl ?_
        refine XX.aload_n dd_M_byKeys_26 rfl 2 rfl ?_
        refine XX.iload_n dd_M_byKeys_27 rfl 4 rfl ?_
        refine XX.iload_n dd_M_byKeys_28 rfl 5 rfl ?_
        refine XX.callV (Mk := m_M_from) (n := 2) (As := [.int (nI lb), .int (nI k)]) (rest := []) (q0 := 0) (ci := 9) (c_M_from htb h6b hkb h3b h10b hhd (l := lb) (k := k) hlb (by omega)) mt_M_from mi_M_from ml_M_172 rfl dd_M_byKeys_29 (rfl) rfl rfl ⟨xn_le rfl, xn_le rfl⟩ ⟨xn_le rfl, xn_le rfl⟩ (xn_le rfl) rfl (fun r1 w1 hp1 => ?_)
        obtain ⟨rfl, y2, rfl, hq1⟩ := hp1
        have hgc : agF x y2 := fun i h1 h2 => (hq1 i h1 h2).trans (hgb i h1 h2)
        have htc : mtx y2 f len ln st B := mtx_mv ht (hgc 0 (by omega) (by omega))
        have hkc : mky y2 f kc kd kg := mky_mv hk (hgc 7 (by omega) (by omega))
        have h3c : y2 3 = all := (hgc 3 (by omega) (by omega)).trans hx3
        have h6c : y2 6 = sep := (hgc 6 (by omega) (by omega)).trans hx6
        have h10c : y2 10 = bI hd := (hgc 10 (by omega) (by omega)).trans hx10
        refine (?_ : XX G m_M_byKeys (xr 6 0 0) (xx_F G (fun r w => r = some (.int (oI (oks B sep all kc kd kg (st la) (men len st la) (st lb) (men len st lb)))) ∧ ∃ x2 : Nat → Int32, w = wM G q x2 f kl ∧ agF x x2) (xr 6 0 0)) 0 0 (wM G q y2 f kl) 32 [(5, .int (nI (ky_begin B sep (ky_fl (kgu kc kg k) all) (kdu kc kd k 0) (kdu kc kd k 1) (st la) (men len st la)))), (4, .int (ky_fl (kgu kc kg k) all)), (0, .ref (q 0)), (1, .int (nI la)), (2, .int (nI lb)), (3, .int (nI k))] [.int (nI (ky_begin B sep (ky_fl (kgu kc kg k) all) (kdu kc kd k 0) (kdu kc kd k 1) (st lb) (men len st lb)))])
        refine XX.istore (lv2 := [(6, .int (nI (ky_begin B sep (ky_fl (kgu kc kg k) all) (kdu kc kd k 0) (kdu kc kd k 1) (st lb) (men len st lb)))), (5, .int (nI (ky_begin B sep (ky_fl (kgu kc kg k) all) (kdu kc kd k 0) (kdu kc kd k 1) (st la) (men len st la)))), (4, .int (ky_fl (kgu kc kg k) all)), (0, .ref (q 0)), (1, .int (nI la)), (2, .int (nI lb)), (3, .int (nI k))]) dd_M_byKeys_32 (by decide) rfl ?_
        refine XX.iload dd_M_byKeys_34 2 rfl ?_
        refine XX.bipush (v := nI 16) dd_M_byKeys_36 (by decide) ?_
        refine XX.iand dd_M_byKeys_38 ?_
        refine XX.if_le (tgt := 65) dd_M_byKeys_39 (by decide) (fun h39 => ?_) (fun h39 => ?_)
        ·
          refine XX.aload_n dd_M_byKeys_65 rfl 3 rfl ?_
          refine XX.iload dd_M_byKeys_66 1 rfl ?_
          refine XX.aload_n dd_M_byKeys_68 rfl 3 rfl ?_
          refine XX.iload_n dd_M_byKeys_69 rfl 4 rfl ?_
          refine XX.iload_n dd_M_byKeys_70 rfl 6 rfl ?_
          refine XX.callV (Mk := m_M_to) (n := 2) (As := [.int (nI la), .int (nI k)]) (rest := [.int (nI (ky_begin B sep (ky_fl (kgu kc kg k) all) (kdu kc kd k 0) (kdu kc kd k 1) (st la) (men len st la))), .ref (q 0)]) (q0 := 0) (ci := 9) (c_M_to htc h6c hkc h3c h10c hhd (l := la) (k := k) hla (by omega)) mt_M_to mi_M_to ml_M_175 rfl dd_M_byKeys_71 (rfl) rfl rfl ⟨xn_le rfl, xn_le rfl⟩ ⟨xn_le rfl, xn_le rfl⟩ (xn_le rfl) rfl (fun r1 w1 hp1 => ?_)
          obtain ⟨rfl, y3, rfl, hq1⟩ := hp1
          have hgd : agF x y3 := fun i h1 h2 => (hq1 i h1 h2).trans (hgc i h1 h2)
          have htd : mtx y3 f len ln st B := mtx_mv ht (hgd 0 (by omega) (by omega))
          have hkd : mky y3 f kc kd kg := mky_mv hk (hgd 7 (by omega) (by omega))
          have h3d : y3 3 = all := (hgd 3 (by omega) (by omega)).trans hx3
          have h6d : y3 6 = sep := (hgd 6 (by omega) (by omega)).trans hx6
          have h10d : y3 10 = bI hd := (hgd 10 (by omega) (by omega)).trans hx10
          refine (?_ : XX G m_M_byKeys (xr 6 0 0) (xx_F G (fun r w => r = some (.int (oI (oks B sep all kc kd kg (st la) (men len st la) (st lb) (men len st lb)))) ∧ ∃ x2 : Nat → Int32, w = wM G q x2 f kl ∧ agF x x2) (xr 6 0 0)) 0 0 (wM G q y3 f kl) 74 [(6, .int (nI (ky_begin B sep (ky_fl (kgu kc kg k) all) (kdu kc kd k 0) (kdu kc kd k 1) (st lb) (men len st lb)))), (5, .int (nI (ky_begin B sep (ky_fl (kgu kc kg k) all) (kdu kc kd k 0) (kdu kc kd k 1) (st la) (men len st la)))), (4, .int (ky_fl (kgu kc kg k) all)), (0, .ref (q 0)), (1, .int (nI la)), (2, .int (nI lb)), (3, .int (nI k))] [.int (nI (ky_end B sep (ky_fl (kgu kc kg k) all) (kdu kc kd k 2) (kdu kc kd k 3) (st la) (men len st la))), .int (nI (ky_begin B sep (ky_fl (kgu kc kg k) all) (kdu kc kd k 0) (kdu kc kd k 1) (st la) (men len st la))), .ref (q 0)])
          refine XX.iload dd_M_byKeys_74 0 rfl ?_
          refine XX.aload_n dd_M_byKeys_76 rfl 3 rfl ?_
          refine XX.iload_n dd_M_byKeys_77 rfl 5 rfl ?_
          refine XX.iload_n dd_M_byKeys_78 rfl 6 rfl ?_
          refine XX.callV (Mk := m_M_to) (n := 2) (As := [.int (nI lb), .int (nI k)]) (rest := [.int (nI (ky_begin B sep (ky_fl (kgu kc kg k) all) (kdu kc kd k 0) (kdu kc kd k 1) (st lb) (men len st lb))), .int (nI (ky_end B sep (ky_fl (kgu kc kg k) all) (kdu kc kd k 2) (kdu kc kd k 3) (st la) (men len st la))), .int (nI (ky_begin B sep (ky_fl (kgu kc kg k) all) (kdu kc kd k 0) (kdu kc kd k 1) (st la) (men len st la))), .ref (q 0)]) (q0 := 0) (ci := 9) (c_M_to htd h6d hkd h3d h10d hhd (l := lb) (k := k) hlb (by omega)) mt_M_to mi_M_to ml_M_175 rfl dd_M_byKeys_79 (rfl) rfl rfl ⟨xn_le rfl, xn_le rfl⟩ ⟨xn_le rfl, xn_le rfl⟩ (xn_le rfl) rfl (fun r1 w1 hp1 => ?_)
          obtain ⟨rfl, y4, rfl, hq1⟩ := hp1
          have hge : agF x y4 := fun i h1 h2 => (hq1 i h1 h2).trans (hgd i h1 h2)
          have hte : mtx y4 f len ln st B := mtx_mv ht (hge 0 (by omega) (by omega))
          have hke : mky y4 f kc kd kg := mky_mv hk (hge 7 (by omega) (by omega))
          have h3e : y4 3 = all := (hge 3 (by omega) (by omega)).trans hx3
          have h6e : y4 6 = sep := (hge 6 (by omega) (by omega)).trans hx6
          have h10e : y4 10 = bI hd := (hge 10 (by omega) (by omega)).trans hx10
          refine (?_ : XX G m_M_byKeys (xr 6 0 0) (xx_F G (fun r w => r = some (.int (oI (oks B sep all kc kd kg (st la) (men len st la) (st lb) (men len st lb)))) ∧ ∃ x2 : Nat → Int32, w = wM G q x2 f kl ∧ agF x x2) (xr 6 0 0)) 0 0 (wM G q y4 f kl) 82 [(6, .int (nI (ky_begin B sep (ky_fl (kgu kc kg k) all) (kdu kc kd k 0) (kdu kc kd k 1) (st lb) (men len st lb)))), (5, .int (nI (ky_begin B sep (ky_fl (kgu kc kg k) all) (kdu kc kd k 0) (kdu kc kd k 1) (st la) (men len st la)))), (4, .int (ky_fl (kgu kc kg k) all)), (0, .ref (q 0)), (1, .int (nI la)), (2, .int (nI lb)), (3, .int (nI k))] [.int (nI (ky_end B sep (ky_fl (kgu kc kg k) all) (kdu kc kd k 2) (kdu kc kd k 3) (st lb) (men len st lb))), .int (nI (ky_begin B sep (ky_fl (kgu kc kg k) all) (kdu kc kd k 0) (kdu kc kd k 1) (st lb) (men len st lb))), .int (nI (ky_end B sep (ky_fl (kgu kc kg k) all) (kdu kc kd k 2) (kdu kc kd k 3) (st la) (men len st la))), .int (nI (ky_begin B sep (ky_fl (kgu kc kg k) all) (kdu kc kd k 0) (kdu kc kd k 1) (st la) (men len st la))), .ref (q 0)])
          refine XX.iload dd_M_byKeys_82 2 rfl ?_
          have w0 : ky_begin B sep (ky_fl (kgu kc kg k) all) (kdu kc kd k 0) (kdu kc kd k 1) (st la) (men len st la) ≤ men len st la := ky_begin_le
          have w1 : ky_begin B sep (ky_fl (kgu kc kg k) all) (kdu kc kd k 0) (kdu kc kd k 1) (st lb) (men len st lb) ≤ men len st lb := ky_begin_le
          have w2 : ky_end B sep (ky_fl (kgu kc kg k) all) (kdu kc kd k 2) (kdu kc kd k 3) (st la) (men len st la) ≤ men len st la := ky_end_le hsa
          have w3 : ky_end B sep (ky_fl (kgu kc kg k) all) (kdu kc kd k 2) (kdu kc kd k 3) (st lb) (men len st lb) ≤ men len st lb := ky_end_le hsb
          refine XX.callVr (Mk := m_M_bytes) (n := 5) (As := [.int (nI (ky_begin B sep (ky_fl (kgu kc kg k) all) (kdu kc kd k 0) (kdu kc kd k 1) (st la) (men len st la))), .int (nI (ky_end B sep (ky_fl (kgu kc kg k) all) (kdu kc kd k 2) (kdu kc kd k 3) (st la) (men len st la))), .int (nI (ky_begin B sep (ky_fl (kgu kc kg k) all) (kdu kc kd k 0) (kdu kc kd k 1) (st lb) (men len st lb))), .int (nI (ky_end B sep (ky_fl (kgu kc kg k) all) (kdu kc kd k 2) (kdu kc kd k 3) (st lb) (men len st lb))), .int (ky_fl (kgu kc kg k) all)]) (rest := []) (q0 := 0) (ci := 9) (c_M_bytes hte (a := ky_begin B sep (ky_fl (kgu kc kg k) all) (kdu kc kd k 0) (kdu kc kd k 1) (st la) (men len st la)) (a2 := ky_end B sep (ky_fl (kgu kc kg k) all) (kdu kc kd k 2) (kdu kc kd k 3) (st la) (men len st la)) (b := ky_begin B sep (ky_fl (kgu kc kg k) all) (kdu kc kd k 0) (kdu kc kd k 1) (st lb) (men len st lb)) (b2 := ky_end B sep (ky_fl (kgu kc kg k) all) (kdu kc kd k 2) (kdu kc kd k 3) (st lb) (men len st lb)) (fl := ky_fl (kgu kc kg k) all) (by omega) (by omega) (by omega) (by omega)) mt_M_bytes mi_M_bytes ml_M_181 rfl dd_M_byKeys_84 (rfl) rfl rfl ⟨xn_le rfl, xn_le rfl⟩ ⟨xn_le rfl, xn_le rfl⟩ (xn_le rfl) rfl ?_
          refine XX.tp (y := oI (kc_b B sep (ky_fl (kgu kc kg k) all) (kdu kc kd k 0) (kdu kc kd k 1) (kdu kc kd k 2) (kdu kc kd k 3) (st la) (men len st la) (st lb) (men len st lb))) (by rw [kc_b, if_pos ((and_le (by decide)).mp h39)]) ?_
          refine XX.lvs [3, 4, 5, 6, 2, 1, 0] rfl ?_
          exact j87 (by omega) y4 hge
        ·
          refine XX.aload_n dd_M_byKeys_42 rfl 3 rfl ?_
          refine XX.iload dd_M_byKeys_43 1 rfl ?_
          refine XX.aload_n dd_M_byKeys_45 rfl 3 rfl ?_
          refine XX.iload_n dd_M_byKeys_46 rfl 4 rfl ?_
          refine XX.iload_n dd_M_byKeys_47 rfl 6 rfl ?_
          refine XX.callV (Mk := m_M_to) (n := 2) (As := [.int (nI la), .int (nI k)]) (rest := [.int (nI (ky_begin B sep (ky_fl (kgu kc kg k) all) (kdu kc kd k 0) (kdu kc kd k 1) (st la) (men len st la))), .ref (q 0)]) (q0 := 0) (ci := 9) (c_M_to htc h6c hkc h3c h10c hhd (l := la) (k := k) hla (by omega)) mt_M_to mi_M_to ml_M_175 rfl dd_M_byKeys_48 (rfl) rfl rfl ⟨xn_le rfl, xn_le rfl⟩ ⟨xn_le rfl, xn_le rfl⟩ (xn_le rfl) rfl (fun r1 w1 hp1 => ?_)
          obtain ⟨rfl, y3, rfl, hq1⟩ := hp1
          have hgd : agF x y3 := fun i h1 h2 => (hq1 i h1 h2).trans (hgc i h1 h2)
          have htd : mtx y3 f len ln st B := mtx_mv ht (hgd 0 (by omega) (by omega))
          have hkd : mky y3 f kc kd kg := mky_mv hk (hgd 7 (by omega) (by omega))
          have h3d : y3 3 = all := (hgd 3 (by omega) (by omega)).trans hx3
          have h6d : y3 6 = sep := (hgd 6 (by omega) (by omega)).trans hx6
          have h10d : y3 10 = bI hd := (hgd 10 (by omega) (by omega)).trans hx10
          refine (?_ : XX G m_M_byKeys (xr 6 0 0) (xx_F G (fun r w => r = some (.int (oI (oks B sep all kc kd kg (st la) (men len st la) (st lb) (men len st lb)))) ∧ ∃ x2 : Nat → Int32, w = wM G q x2 f kl ∧ agF x x2) (xr 6 0 0)) 0 0 (wM G q y3 f kl) 51 [(6, .int (nI (ky_begin B sep (ky_fl (kgu kc kg k) all) (kdu kc kd k 0) (kdu kc kd k 1) (st lb) (men len st lb)))), (5, .int (nI (ky_begin B sep (ky_fl (kgu kc kg k) all) (kdu kc kd k 0) (kdu kc kd k 1) (st la) (men len st la)))), (4, .int (ky_fl (kgu kc kg k) all)), (0, .ref (q 0)), (1, .int (nI la)), (2, .int (nI lb)), (3, .int (nI k))] [.int (nI (ky_end B sep (ky_fl (kgu kc kg k) all) (kdu kc kd k 2) (kdu kc kd k 3) (st la) (men len st la))), .int (nI (ky_begin B sep (ky_fl (kgu kc kg k) all) (kdu kc kd k 0) (kdu kc kd k 1) (st la) (men len st la))), .ref (q 0)])
          refine XX.iload dd_M_byKeys_51 0 rfl ?_
          refine XX.aload_n dd_M_byKeys_53 rfl 3 rfl ?_
          refine XX.iload_n dd_M_byKeys_54 rfl 5 rfl ?_
          refine XX.iload_n dd_M_byKeys_55 rfl 6 rfl ?_
          refine XX.callV (Mk := m_M_to) (n := 2) (As := [.int (nI lb), .int (nI k)]) (rest := [.int (nI (ky_begin B sep (ky_fl (kgu kc kg k) all) (kdu kc kd k 0) (kdu kc kd k 1) (st lb) (men len st lb))), .int (nI (ky_end B sep (ky_fl (kgu kc kg k) all) (kdu kc kd k 2) (kdu kc kd k 3) (st la) (men len st la))), .int (nI (ky_begin B sep (ky_fl (kgu kc kg k) all) (kdu kc kd k 0) (kdu kc kd k 1) (st la) (men len st la))), .ref (q 0)]) (q0 := 0) (ci := 9) (c_M_to htd h6d hkd h3d h10d hhd (l := lb) (k := k) hlb (by omega)) mt_M_to mi_M_to ml_M_175 rfl dd_M_byKeys_56 (rfl) rfl rfl ⟨xn_le rfl, xn_le rfl⟩ ⟨xn_le rfl, xn_le rfl⟩ (xn_le rfl) rfl (fun r1 w1 hp1 => ?_)
          obtain ⟨rfl, y4, rfl, hq1⟩ := hp1
          have hge : agF x y4 := fun i h1 h2 => (hq1 i h1 h2).trans (hgd i h1 h2)
          have hte : mtx y4 f len ln st B := mtx_mv ht (hge 0 (by omega) (by omega))
          have hke : mky y4 f kc kd kg := mky_mv hk (hge 7 (by omega) (by omega))
          have h3e : y4 3 = all := (hge 3 (by omega) (by omega)).trans hx3
          have h6e : y4 6 = sep := (hge 6 (by omega) (by omega)).trans hx6
          have h10e : y4 10 = bI hd := (hge 10 (by omega) (by omega)).trans hx10
          refine (?_ : XX G m_M_byKeys (xr 6 0 0) (xx_F G (fun r w => r = some (.int (oI (oks B sep all kc kd kg (st la) (men len st la) (st lb) (men len st lb)))) ∧ ∃ x2 : Nat → Int32, w = wM G q x2 f kl ∧ agF x x2) (xr 6 0 0)) 0 0 (wM G q y4 f kl) 59 [(6, .int (nI (ky_begin B sep (ky_fl (kgu kc kg k) all) (kdu kc kd k 0) (kdu kc kd k 1) (st lb) (men len st lb)))), (5, .int (nI (ky_begin B sep (ky_fl (kgu kc kg k) all) (kdu kc kd k 0) (kdu kc kd k 1) (st la) (men len st la)))), (4, .int (ky_fl (kgu kc kg k) all)), (0, .ref (q 0)), (1, .int (nI la)), (2, .int (nI lb)), (3, .int (nI k))] [.int (nI (ky_end B sep (ky_fl (kgu kc kg k) all) (kdu kc kd k 2) (kdu kc kd k 3) (st lb) (men len st lb))), .int (nI (ky_begin B sep (ky_fl (kgu kc kg k) all) (kdu kc kd k 0) (kdu kc kd k 1) (st lb) (men len st lb))), .int (nI (ky_end B sep (ky_fl (kgu kc kg k) all) (kdu kc kd k 2) (kdu kc kd k 3) (st la) (men len st la))), .int (nI (ky_begin B sep (ky_fl (kgu kc kg k) all) (kdu kc kd k 0) (kdu kc kd k 1) (st la) (men len st la))), .ref (q 0)])
          have w0 : ky_begin B sep (ky_fl (kgu kc kg k) all) (kdu kc kd k 0) (kdu kc kd k 1) (st la) (men len st la) ≤ men len st la := ky_begin_le
          have w1 : ky_begin B sep (ky_fl (kgu kc kg k) all) (kdu kc kd k 0) (kdu kc kd k 1) (st lb) (men len st lb) ≤ men len st lb := ky_begin_le
          have w2 : ky_end B sep (ky_fl (kgu kc kg k) all) (kdu kc kd k 2) (kdu kc kd k 3) (st la) (men len st la) ≤ men len st la := ky_end_le hsa
          have w3 : ky_end B sep (ky_fl (kgu kc kg k) all) (kdu kc kd k 2) (kdu kc kd k 3) (st lb) (men len st lb) ≤ men len st lb := ky_end_le hsb
          refine XX.callVr (Mk := m_M_numbers) (n := 4) (As := [.int (nI (ky_begin B sep (ky_fl (kgu kc kg k) all) (kdu kc kd k 0) (kdu kc kd k 1) (st la) (men len st la))), .int (nI (ky_end B sep (ky_fl (kgu kc kg k) all) (kdu kc kd k 2) (kdu kc kd k 3) (st la) (men len st la))), .int (nI (ky_begin B sep (ky_fl (kgu kc kg k) all) (kdu kc kd k 0) (kdu kc kd k 1) (st lb) (men len st lb))), .int (nI (ky_end B sep (ky_fl (kgu kc kg k) all) (kdu kc kd k 2) (kdu kc kd k 3) (st lb) (men len st lb)))]) (rest := []) (q0 := 0) (ci := 9) (c_M_numbers hte hby (a := ky_begin B sep (ky_fl (kgu kc kg k) all) (kdu kc kd k 0) (kdu kc kd k 1) (st la) (men len st la)) (a2 := ky_end B sep (ky_fl (kgu kc kg k) all) (kdu kc kd k 2) (kdu kc kd k 3) (st la) (men len st la)) (b := ky_begin B sep (ky_fl (kgu kc kg k) all) (kdu kc kd k 0) (kdu kc kd k 1) (st lb) (men len st lb)) (b2 := ky_end B sep (ky_fl (kgu kc kg k) all) (kdu kc kd k 2) (kdu kc kd k 3) (st lb) (men len st lb)) (by omega) (by omega) (by omega) (by omega)) mt_M_numbers mi_M_numbers ml_M_178 rfl dd_M_byKeys_59 (rfl) rfl rfl ⟨xn_le rfl, xn_le rfl⟩ ⟨xn_le rfl, xn_le rfl⟩ (xn_le rfl) rfl ?_
          refine XX.goto (tgt := 87) dd_M_byKeys_62 (by decide) ?_
          refine XX.tp (y := oI (kc_b B sep (ky_fl (kgu kc kg k) all) (kdu kc kd k 0) (kdu kc kd k 1) (kdu kc kd k 2) (kdu kc kd k 3) (st la) (men len st la) (st lb) (men len st lb))) (by rw [kc_b, if_neg (fun z => h39 ((and_le (by decide)).mpr z))]) ?_
          refine XX.lvs [3, 4, 5, 6, 2, 1, 0] rfl ?_
          exact j87 (by omega) y4 hge
  refine XX.iconst (v := nI 0) dd_M_byKeys_0 (by decide) ?_
  refine XX.istore_n (lv2 := [(3, .int (nI 0)), (0, .ref (q 0)), (1, .int (nI la)), (2, .int (nI lb))]) dd_M_byKeys_1 rfl (by decide) rfl ?_
  refine XX.lvs [1, 2, 3, 0] rfl ?_
  exact loop _ 0 x rfl (by omega) (fun _ _ _ => rfl) rfl

set_option maxRecDepth 100000 in
set_option maxHeartbeats 4000000 in
theorem c_M_byAll {G : XG} {q : Nat → Nat} {x : Nat → Int32} {f : Nat → Nat → Int32} {kl : va_W} {len ln : Nat} {st : Nat → Nat} {B : Nat → Int32} (ht : mtx x f len ln st B) (hby : bfit B len) {sep : Int32} (hx6 : x 6 = sep) {kc : Nat} {kd : Nat → Nat → Nat} {kg : Nat → Int32} {all : Int32} (hk : mky x f kc kd kg) (hx3 : x 3 = all) {bs bo : Bool} (hx4 : x 4 = bI bs) (hx5 : x 5 = bI bo) {hd : Bool} (hx10 : x 10 = bI hd) (hhd : hd = true → ln ≤ 1000 ∧ ∀ l k, l < ln → k < max 1 kc → f 3 (6 * l + k) = nI (ky_begin B sep (ky_fl (kgu kc kg k) all) (kdu kc kd k 0) (kdu kc kd k 1) (st l) (men len st l)) ∧ f 4 (6 * l + k) = nI (ky_end B sep (ky_fl (kgu kc kg k) all) (kdu kc kd k 2) (kdu kc kd k 3) (st l) (men len st l))) {la lb : Nat} (hla : la < ln) (hlb : lb < ln) : MM G m_M_byAll (xr 7 0 0) [.ref (q 0), .int (nI la), .int (nI lb)] (wM G q x f kl) (fun r w => r = some (.int (oI (oal B sep all kc kd kg bs bo (st la) (men len st la) (st lb) (men len st lb)))) ∧ ∃ x2 : Nat → Int32, w = wM G q x2 f kl ∧ agF x x2) := by
  obtain ⟨hx0, hl0, hln, hst, hse, hB⟩ := id ht
  have hkc := hk.2.1
  have hsa := (hse la hla).2
  have hsb := (hse lb hlb).2
  have hma := men_le len st la
  have hmb := men_le len st lb
  refine MM.of rfl (xn_le rfl) ?_
  refine (?_ : XX G m_M_byAll (xr 7 0 0) (xx_F G (fun r w => r = some (.int (oI (oal B sep all kc kd kg bs bo (st la) (men len st la) (st lb) (men len st lb)))) ∧ ∃ x2 : Nat → Int32, w = wM G q x2 f kl ∧ agF x x2) (xr 7 0 0)) 0 0 (wM G q x f kl) 0 [(0, .ref (q 0)), (1, .int (nI la)), (2, .int (nI lb))] [])
  refine XX.aload_n dd_M_byAll_0 rfl 0 rfl ?_
  refine XX.iload_n dd_M_byAll_1 rfl 1 rfl ?_
  refine XX.iload_n dd_M_byAll_2 rfl 2 rfl ?_
  refine XX.callV (Mk := m_M_byKeys) (n := 2) (As := [.int (nI la), .int (nI lb)]) (rest := []) (q0 := 0) (ci := 9) (c_M_byKeys ht hby hx6 hk hx3 hx10 hhd (la := la) (lb := lb) hla hlb) mt_M_byKeys mi_M_byKeys ml_M_185 rfl dd_M_byAll_3 (rfl) rfl rfl ⟨xn_le rfl, xn_le rfl⟩ ⟨xn_le rfl, xn_le rfl⟩ (xn_le rfl) rfl (fun r1 w1 hp1 => ?_)
  obtain ⟨rfl, x2, rfl, hgb⟩ := hp1
  have htb : mtx x2 f len ln st B := mtx_mv ht (hgb 0 (by omega) (by omega))
  have hkb : mky x2 f kc kd kg := mky_mv hk (hgb 7 (by omega) (by omega))
  have h3b : x2 3 = all := (hgb 3 (by omega) (by omega)).trans hx3
  have h6b : x2 6 = sep := (hgb 6 (by omega) (by omega)).trans hx6
  have h10b : x2 10 = bI hd := (hgb 10 (by omega) (by omega)).trans hx10
  have g4 : x2 4 = bI bs := (hgb 4 (by omega) (by omega)).trans hx4
  have g5 : x2 5 = bI bo := (hgb 5 (by omega) (by omega)).trans hx5
  refine (?_ : XX G m_M_byAll (xr 7 0 0) (xx_F G (fun r w => r = some (.int (oI (oal B sep all kc kd kg bs bo (st la) (men len st la) (st lb) (men len st lb)))) ∧ ∃ x2 : Nat → Int32, w = wM G q x2 f kl ∧ agF x x2) (xr 7 0 0)) 0 0 (wM G q x2 f kl) 6 [(0, .ref (q 0)), (1, .int (nI la)), (2, .int (nI lb))] [.int (oI (oks B sep all kc kd kg (st la) (men len st la) (st lb) (men len st lb)))])
  refine XX.istore_n (lv2 := [(3, .int (oI (oks B sep all kc kd kg (st la) (men len st la) (st lb) (men len st lb)))), (0, .ref (q 0)), (1, .int (nI la)), (2, .int (nI lb))]) dd_M_byAll_6 rfl (by decide) rfl ?_
  refine XX.iload_n dd_M_byAll_7 rfl 0 rfl ?_
  refine XX.if_ne (tgt := 25) dd_M_byAll_8 (by decide) (fun h8 => ?_) (fun h8 => ?_)
  ·
    refine XX.iload_n dd_M_byAll_25 rfl 0 rfl ?_
    refine XX.tp (y := oI (oal B sep all kc kd kg bs bo (st la) (men len st la) (st lb) (men len st lb))) (by rw [oal, if_pos (by simp [h8])]) ?_
    exact XX.iret dd_M_byAll_26 rfl ⟨xn_le rfl, xn_le rfl⟩ ⟨rfl, x2, rfl, hgb⟩
  ·
    refine XX.aload_n dd_M_byAll_11 rfl 1 rfl ?_
    refine XX.get (q0 := 0) (v := .int (x2 4)) fl_M_88 dd_M_byAll_12 rfl rfl ?_
    refine XX.tp (y := bI bs) (g4) ?_
    refine XX.bif_ne (tgt := 25) dd_M_byAll_15 (by decide) (fun h15 => ?_) (fun h15 => ?_)
    ·
      refine XX.iload_n dd_M_byAll_25 rfl 0 rfl ?_
      refine XX.tp (y := oI (oal B sep all kc kd kg bs bo (st la) (men len st la) (st lb) (men len st lb))) (by rw [oal, if_pos (by simp [h8, h15])]) ?_
      exact XX.iret dd_M_byAll_26 rfl ⟨xn_le rfl, xn_le rfl⟩ ⟨rfl, x2, rfl, hgb⟩
    ·
      refine XX.aload_n dd_M_byAll_18 rfl 1 rfl ?_
      refine XX.get (q0 := 0) (v := .int (x2 5)) fl_M_91 dd_M_byAll_19 rfl rfl ?_
      refine XX.tp (y := bI bo) (g5) ?_
      refine XX.bif_eq (tgt := 27) dd_M_byAll_22 (by decide) (fun h22 => ?_) (fun h22 => ?_)
      ·
        refine XX.aload_n dd_M_byAll_27 rfl 1 rfl ?_
        refine XX.aload_n dd_M_byAll_28 rfl 1 rfl ?_
        refine XX.iload_n dd_M_byAll_29 rfl 2 rfl ?_
        refine XX.callVr (Mk := m_M_startOf) (n := 1) (As := [.int (nI la)]) (rest := [.ref (q 0)]) (q0 := 0) (ci := 9) (c_M_startOf htb (l := la) (by omega)) mt_M_startOf mi_M_startOf ml_M_101 rfl dd_M_byAll_30 (rfl) rfl rfl ⟨xn_le rfl, xn_le rfl⟩ ⟨xn_le rfl, xn_le rfl⟩ (xn_le rfl) rfl ?_
        refine XX.aload_n dd_M_byAll_33 rfl 1 rfl ?_
        refine XX.iload_n dd_M_byAll_34 rfl 2 rfl ?_
        refine XX.callVr (Mk := m_M_endOf) (n := 1) (As := [.int (nI la)]) (rest := [.int (nI (st la)), .ref (q 0)]) (q0 := 0) (ci := 9) (c_M_endOf htb (l := la) (by omega)) mt_M_endOf mi_M_endOf ml_M_97 rfl dd_M_byAll_35 (rfl) rfl rfl ⟨xn_le rfl, xn_le rfl⟩ ⟨xn_le rfl, xn_le rfl⟩ (xn_le rfl) rfl ?_
        refine XX.aload_n dd_M_byAll_38 rfl 1 rfl ?_
        refine XX.iload_n dd_M_byAll_39 rfl 3 rfl ?_
        refine XX.callVr (Mk := m_M_startOf) (n := 1) (As := [.int (nI lb)]) (rest := [.int (nI (men len st la)), .int (nI (st la)), .ref (q 0)]) (q0 := 0) (ci := 9) (c_M_startOf htb (l := lb) (by omega)) mt_M_startOf mi_M_startOf ml_M_101 rfl dd_M_byAll_40 (rfl) rfl rfl ⟨xn_le rfl, xn_le rfl⟩ ⟨xn_le rfl, xn_le rfl⟩ (xn_le rfl) rfl ?_
        refine XX.aload_n dd_M_byAll_43 rfl 1 rfl ?_
        refine XX.iload_n dd_M_byAll_44 rfl 3 rfl ?_
        refine XX.callVr (Mk := m_M_endOf) (n := 1) (As := [.int (nI lb)]) (rest := [.int (nI (st lb)), .int (nI (men len st la)), .int (nI (st la)), .ref (q 0)]) (q0 := 0) (ci := 9) (c_M_endOf htb (l := lb) (by omega)) mt_M_endOf mi_M_endOf ml_M_97 rfl dd_M_byAll_45 (rfl) rfl rfl ⟨xn_le rfl, xn_le rfl⟩ ⟨xn_le rfl, xn_le rfl⟩ (xn_le rfl) rfl ?_
        refine XX.iconst (v := nI 0) dd_M_byAll_48 (by decide) ?_
        refine XX.callVr (Mk := m_M_bytes) (n := 5) (As := [.int (nI (st la)), .int (nI (men len st la)), .int (nI (st lb)), .int (nI (men len st lb)), .int (nI 0)]) (rest := []) (q0 := 0) (ci := 9) (c_M_bytes htb (a := st la) (a2 := men len st la) (b := st lb) (b2 := men len st lb) (fl := nI 0) (by omega) (by omega) (by omega) (by omega)) mt_M_bytes mi_M_bytes ml_M_181 rfl dd_M_byAll_49 (rfl) rfl rfl ⟨xn_le rfl, xn_le rfl⟩ ⟨xn_le rfl, xn_le rfl⟩ (xn_le rfl) rfl ?_
        refine XX.istore (lv2 := [(4, .int (oI (lx (wb B (nI 0) (st la) (men len st la)) (wb B (nI 0) (st lb) (men len st lb))))), (3, .int (oI (oks B sep all kc kd kg (st la) (men len st la) (st lb) (men len st lb)))), (0, .ref (q 0)), (1, .int (nI la)), (2, .int (nI lb))]) dd_M_byAll_52 (by decide) rfl ?_
        refine XX.aload_n dd_M_byAll_54 rfl 2 rfl ?_
        refine XX.get (q0 := 0) (v := .int (x2 3)) fl_M_85 dd_M_byAll_55 rfl rfl ?_
        refine XX.tp (y := all) (h3b) ?_
        refine XX.bipush (v := nI 32) dd_M_byAll_58 (by decide) ?_
        refine XX.iand dd_M_byAll_60 ?_
        refine XX.if_le (tgt := 70) dd_M_byAll_61 (by decide) (fun h61 => ?_) (fun h61 => ?_)
        ·
          refine XX.iload dd_M_byAll_70 0 rfl ?_
          refine XX.tp (y := oI (oal B sep all kc kd kg bs bo (st la) (men len st la) (st lb) (men len st lb))) (by rw [oal, if_neg (by simp [h8, h15, h22])]; rw [kc_r, if_pos ((and_le (by decide)).mp h61)]) ?_
          exact XX.iret dd_M_byAll_72 rfl ⟨xn_le rfl, xn_le rfl⟩ ⟨rfl, x2, rfl, hgb⟩
        ·
          refine XX.iload dd_M_byAll_64 0 rfl ?_
          refine XX.ineg dd_M_byAll_66 ?_
          refine XX.goto (tgt := 72) dd_M_byAll_67 (by decide) ?_
          refine XX.tp (y := oI (oal B sep all kc kd kg bs bo (st la) (men len st la) (st lb) (men len st lb))) (by rw [oal, if_neg (by simp [h8, h15, h22])]; rw [kc_r, if_neg (fun z => h61 ((and_le (by decide)).mpr z)), oI_neg]) ?_
          exact XX.iret dd_M_byAll_72 rfl ⟨xn_le rfl, xn_le rfl⟩ ⟨rfl, x2, rfl, hgb⟩
      ·
        refine XX.iload_n dd_M_byAll_25 rfl 0 rfl ?_
        refine XX.tp (y := oI (oal B sep all kc kd kg bs bo (st la) (men len st la) (st lb) (men len st lb))) (by rw [oal, if_pos (by simp [h8, h15, h22])]) ?_
        exact XX.iret dd_M_byAll_26 rfl ⟨xn_le rfl, xn_le rfl⟩ ⟨rfl, x2, rfl, hgb⟩

def oml (B : Nat → Int32) (sep all : Int32) (kc : Nat) (kd : Nat → Nat → Nat) (kg : Nat → Int32) (bs bo : Bool) (len : Nat) (st : Nat → Nat) (a b : Nat) : Ordering := oal B sep all kc kd kg bs bo (st a) (men len st a) (st b) (men len st b)
set_option maxRecDepth 100000 in
set_option maxHeartbeats 4000000 in
theorem c_M_isBefore {G : XG} {q : Nat → Nat} {x : Nat → Int32} {f : Nat → Nat → Int32} {kl : va_W} {len ln : Nat} {st : Nat → Nat} {B : Nat → Int32} (ht : mtx x f len ln st B) (hby : bfit B len) {sep : Int32} (hx6 : x 6 = sep) {kc : Nat} {kd : Nat → Nat → Nat} {kg : Nat → Int32} {all : Int32} (hk : mky x f kc kd kg) (hx3 : x 3 = all) {bs bo : Bool} (hx4 : x 4 = bI bs) (hx5 : x 5 = bI bo) {hd : Bool} (hx10 : x 10 = bI hd) (hhd : hd = true → ln ≤ 1000 ∧ ∀ l k, l < ln → k < max 1 kc → f 3 (6 * l + k) = nI (ky_begin B sep (ky_fl (kgu kc kg k) all) (kdu kc kd k 0) (kdu kc kd k 1) (st l) (men len st l)) ∧ f 4 (6 * l + k) = nI (ky_end B sep (ky_fl (kgu kc kg k) all) (kdu kc kd k 2) (kdu kc kd k 3) (st l) (men len st l))) {la lb : Nat} (hla : la < ln) (hlb : lb < ln) : MM G m_M_isBefore (xr 8 0 0) [.ref (q 0), .int (nI la), .int (nI lb)] (wM G q x f kl) (fun r w => r = some (.int (bI (bf (oml B sep all kc kd kg bs bo len st) la lb))) ∧ ∃ x2 : Nat → Int32, w = wM G q x2 f kl ∧ agF x x2) := by
  obtain ⟨hx0, hl0, hln, hst, hse, hB⟩ := id ht
  refine MM.of rfl (xn_le rfl) ?_
  refine (?_ : XX G m_M_isBefore (xr 8 0 0) (xx_F G (fun r w => r = some (.int (bI (bf (oml B sep all kc kd kg bs bo len st) la lb))) ∧ ∃ x2 : Nat → Int32, w = wM G q x2 f kl ∧ agF x x2) (xr 8 0 0)) 0 0 (wM G q x f kl) 0 [(0, .ref (q 0)), (1, .int (nI la)), (2, .int (nI lb))] [])
  refine XX.aload_n dd_M_isBefore_0 rfl 0 rfl ?_
  refine XX.iload_n dd_M_isBefore_1 rfl 1 rfl ?_
  refine XX.iload_n dd_M_isBefore_2 rfl 2 rfl ?_
  refine XX.callV (Mk := m_M_byAll) (n := 2) (As := [.int (nI la), .int (nI lb)]) (rest := []) (q0 := 0) (ci := 9) (c_M_byAll ht hby hx6 hk hx3 hx4 hx5 hx10 hhd (la := la) (lb := lb) hla hlb) mt_M_byAll mi_M_byAll ml_M_188 rfl dd_M_isBefore_3 (rfl) rfl rfl ⟨xn_le rfl, xn_le rfl⟩ ⟨xn_le rfl, xn_le rfl⟩ (xn_le rfl) rfl (fun r1 w1 hp1 => ?_)
  obtain ⟨rfl, x2, rfl, hgb⟩ := hp1
  refine (?_ : XX G m_M_isBefore (xr 8 0 0) (xx_F G (fun r w => r = some (.int (bI (bf (oml B sep all kc kd kg bs bo len st) la lb))) ∧ ∃ x2 : Nat → Int32, w = wM G q x2 f kl ∧ agF x x2) (xr 8 0 0)) 0 0 (wM G q x2 f kl) 6 [(0, .ref (q 0)), (1, .int (nI la)), (2, .int (nI lb))] [.int (oI (oml B sep all kc kd kg bs bo len st la lb))])
  refine XX.istore_n (lv2 := [(3, .int (oI (oml B sep all kc kd kg bs bo len st la lb))), (0, .ref (q 0)), (1, .int (nI la)), (2, .int (nI lb))]) dd_M_isBefore_6 rfl (by decide) rfl ?_
  refine XX.iload_n dd_M_isBefore_7 rfl 0 rfl ?_
  refine XX.if_lt (tgt := 20) dd_M_isBefore_8 (by decide) (fun h8 => ?_) (fun h8 => ?_)
  ·
    refine XX.iconst (v := nI 1) dd_M_isBefore_20 (by decide) ?_
    refine XX.goto (tgt := 25) dd_M_isBefore_21 (by decide) ?_
    refine XX.tp (y := bI (bf (oml B sep all kc kd kg bs bo len st) la lb)) (by rw [bf, (oI_lt _).mp h8]; rfl) ?_
    exact XX.zret dd_M_isBefore_25 rfl (bI_nar _) ⟨xn_le rfl, xn_le rfl⟩ ⟨rfl, x2, rfl, hgb⟩
  ·
    refine XX.iload_n dd_M_isBefore_11 rfl 0 rfl ?_
    refine XX.if_ne (tgt := 24) dd_M_isBefore_12 (by decide) (fun h12 => ?_) (fun h12 => ?_)
    ·
      refine XX.iconst (v := nI 0) dd_M_isBefore_24 (by decide) ?_
      refine XX.tp (y := bI (bf (oml B sep all kc kd kg bs bo len st) la lb)) (by
        have z1 : ¬ oml B sep all kc kd kg bs bo len st la lb = .lt := fun z => h8 ((oI_lt _).mpr z)
        have z2 : ¬ oml B sep all kc kd kg bs bo len st la lb = .eq := fun z => h12 ((oI_0 _).mpr z)
        cases z : oml B sep all kc kd kg bs bo len st la lb with
        | lt => exact absurd z z1
        | eq => exact absurd z z2
        | gt => rw [bf, z]; rfl) ?_
      exact XX.zret dd_M_isBefore_25 rfl (bI_nar _) ⟨xn_le rfl, xn_le rfl⟩ ⟨rfl, x2, rfl, hgb⟩
    ·
      refine XX.iload_n dd_M_isBefore_15 rfl 2 rfl ?_
      refine XX.iload_n dd_M_isBefore_16 rfl 3 rfl ?_
      refine XX.ncmp_ge (tgt := 24) dd_M_isBefore_17 (by decide) (by omega) (by omega) (fun h17 => ?_) (fun h17 => ?_)
      ·
        refine XX.iconst (v := nI 0) dd_M_isBefore_24 (by decide) ?_
        refine XX.tp (y := bI (bf (oml B sep all kc kd kg bs bo len st) la lb)) (by rw [bf, (oI_0 _).mp h12]; simp only []; rw [decide_eq_false (by omega)]; rfl) ?_
        exact XX.zret dd_M_isBefore_25 rfl (bI_nar _) ⟨xn_le rfl, xn_le rfl⟩ ⟨rfl, x2, rfl, hgb⟩
      ·
        refine XX.iconst (v := nI 1) dd_M_isBefore_20 (by decide) ?_
        refine XX.goto (tgt := 25) dd_M_isBefore_21 (by decide) ?_
        refine XX.tp (y := bI (bf (oml B sep all kc kd kg bs bo len st) la lb)) (by rw [bf, (oI_0 _).mp h12]; simp only []; rw [decide_eq_true (by omega)]; rfl) ?_
        exact XX.zret dd_M_isBefore_25 rfl (bI_nar _) ⟨xn_le rfl, xn_le rfl⟩ ⟨rfl, x2, rfl, hgb⟩


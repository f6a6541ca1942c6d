set_option maxHeartbeats 4000000 in
set_option maxRecDepth 100000 in
theorem c_X0_sent (l : Launch) (D : va_G) (cI cZ : ClassId) (h : Nat) (a : Nat → Nat) (u : SX)   : zMi l yX0_sent wsX0_sent ({ frames := 0, cells := 0, slots := 0, locals := 0 } : Room) zTT D [(cI, .int), (cZ, .boolean)] (wX0 cI cZ h a u) [.ref h] (fun (r : Int32) (_ : Unit) => r = r_X0_sent u) (fun _ => (wX0 cI cZ h a u)) 0 0 := by
  refine z_startI (cc := cX0_sent) (n := 1) (own := RX0) (L0 := [(0, .ref h)]) (plainFor_of_name (by decide)) rfl rfl (Nat.le_of_ble_eq_true rfl) rfl (fun E hret => ?_)
  refine z_aload_n 0 dX0_sent_0 rfl ?_
  refine z_get (C := RX0) (T := TX0) (N := 19) (v := .int (u.1 16)) inwX0_sent 0 rfl rfl 16 (by decide) (List.mem_of_getElem? (i := 1) rfl) rfl rfl dX0_sent_1 ?_
  exact hret _ () _ _ _ dX0_sent_4 (by rw [r_X0_sent]) rfl
set_option maxHeartbeats 4000000 in
set_option maxRecDepth 100000 in
theorem c_X0_stands (l : Launch) (D : va_G) (cI cZ : ClassId) (h : Nat) (a : Nat → Nat) (u : SX) (p1 : Int32) (he : e_X0_stands u p1 = 0) (nn : Nat) (hnn : u.1 16 = nI nn) (hn : nn ≤ 120) : zMi l yX0_stands wsX0_stands ({ frames := 1, cells := 0, slots := 0, locals := 21 } : Room) zTT D [(cI, .int), (cZ, .boolean)] (wX0 cI cZ h a u) [.ref h, .int p1] (fun (r : Int32) (_ : Unit) => r = r_X0_stands u p1) (fun _ => (wX0 cI cZ h a u)) 0 0 := by
  refine z_startZ (cc := cX0_stands) (n := 2) (own := RX0) (L0 := [(0, .ref h), (1, .int p1)]) (plainFor_of_name (by decide)) rfl rfl (Nat.le_of_ble_eq_true rfl) rfl (fun E hret => ?_)
  have hixnn : ix (u.1 16) = nn := by rw [hnn]; exact nI_clamp (by omega)
  refine z_aload_n 0 dX0_stands_0 rfl ?_
  refine z_iload_n 1 dX0_stands_1 rfl ?_
  have e_2_0 : (e_X0_requireNotice u p1) = 0 := Decidable.byContradiction (fun hq => by rw [e_X0_stands, if_neg hq] at he; exact hq he)
  refine z_callVv (As := [.int p1]) (st := []) (fun l => c_X0_requireNotice l D cI cZ h a u p1 (by assumption)) zGok_TT (fun _ _ _ => trivial) (fun s args hts => cwV 1 hts gX0_stands_X0_requireNotice rfl rfl rfl (by decide +kernel) ⟨Nat.le_of_ble_eq_true rfl, Nat.le_of_ble_eq_true rfl⟩) (ci := 0) rfl rfl rfl rfl (Nat.le_of_ble_eq_true rfl) ⟨Nat.le_of_ble_eq_true rfl, Nat.le_of_ble_eq_true rfl⟩ dX0_stands_2 rfl (fun u2 hp => ?_)
  clear hp
  refine z_aload_n 0 dX0_stands_5 rfl ?_
  refine z_iload_n 1 dX0_stands_6 rfl ?_
  refine z_callVi (As := [.int p1]) (st := []) (fun l => c_X0_isStanding l D cI cZ h a u p1 (by first | (with_reducible assumption) | with_reducible exact znot hnn hn (by assumption) | exact hnn | assumption | decide)) zGok_TT (fun _ _ _ => trivial) (fun s args hts => cwV 1 hts gX0_stands_X0_isStanding rfl rfl rfl (by decide +kernel) ⟨Nat.le_of_ble_eq_true rfl, Nat.le_of_ble_eq_true rfl⟩) (ci := 0) rfl rfl rfl rfl (Nat.le_of_ble_eq_true rfl) ⟨Nat.le_of_ble_eq_true rfl, Nat.le_of_ble_eq_true rfl⟩ dX0_stands_7 rfl (fun r u2 hp => ?_)
  subst hp
  exact hret _ () _ _ _ dX0_stands_10 (by rw [r_X0_stands]) rfl (znar01 (z01_X0_isStanding _ _))
set_option maxHeartbeats 4000000 in
set_option maxRecDepth 100000 in
theorem t_X0_stands (l : Launch) (hlt : l.stackTraces = false) (D : va_G) (cI cZ : ClassId) (h : Nat) (a : Nat → Nat) (u : SX) (p1 : Int32) (he : e_X0_stands u p1 ≠ 0) (nn : Nat) (hnn : u.1 16 = nI nn) (hn : nn ≤ 120) : zMx l yX0_stands wsX0_stands ({ frames := 7, cells := 1, slots := 6, locals := 103 } : Room) D [(cI, .int), (cZ, .boolean)] (wX0 cI cZ h a u) [.ref h, .int p1] (fun E' => E' = zEx (e_X0_stands u p1)) := by
  refine z_startX (cc := cX0_stands) (n := 2) (own := RX0) (L0 := [(0, .ref h), (1, .int p1)]) hlt (by decide) rfl rfl (Nat.le_of_ble_eq_true rfl) rfl ⟨Nat.le_of_ble_eq_true rfl, Nat.le_of_ble_eq_true rfl⟩ (fun E hlt hthr hthrow => ?_)
  refine z_aload_n 0 dX0_stands_0 rfl ?_
  refine z_iload_n 1 dX0_stands_1 rfl ?_
  by_cases e_2_0 : (e_X0_requireNotice u p1) = 0
  ·
    refine z_callVv (As := [.int p1]) (st := []) (fun l => c_X0_requireNotice l D cI cZ h a u p1 (by assumption)) zGok_TT (fun _ _ _ => trivial) (fun s args hts => cwV 1 hts gX0_stands_X0_requireNotice rfl rfl rfl (by decide +kernel) ⟨Nat.le_of_ble_eq_true rfl, Nat.le_of_ble_eq_true rfl⟩) (ci := 0) rfl rfl rfl rfl (Nat.le_of_ble_eq_true rfl) ⟨Nat.le_of_ble_eq_true rfl, Nat.le_of_ble_eq_true rfl⟩ dX0_stands_2 rfl (fun u2 hp => ?_)
    clear hp
    exact absurd (by rw [e_X0_stands, if_pos e_2_0]) he
  ·
    refine z_callVx (As := [.int p1]) (st := []) hlt (fun l hl => t_X0_requireNotice l hl D cI cZ h a u p1 (by assumption)) (fun s args hts => cwV 1 hts gX0_stands_X0_requireNotice rfl rfl rfl (by decide +kernel) ⟨Nat.le_of_ble_eq_true rfl, Nat.le_of_ble_eq_true rfl⟩) (ci := 0) rfl rfl rfl rfl (Nat.le_of_ble_eq_true rfl) ⟨Nat.le_of_ble_eq_true rfl, Nat.le_of_ble_eq_true rfl⟩ dX0_stands_2 rfl ?_
    exact hthr _ _ _ (fun E' hE => by rw [e_X0_stands, if_neg e_2_0]; exact hE)
set_option maxHeartbeats 4000000 in
set_option maxRecDepth 100000 in
theorem c_X0_waitsFor (l : Launch) (D : va_G) (cI cZ : ClassId) (h : Nat) (a : Nat → Nat) (u : SX) (p1 : Int32) (he : e_X0_waitsFor u p1 = 0) (nn : Nat) (hnn : u.1 16 = nI nn) (hn : nn ≤ 120) : zMi l yX0_waitsFor wsX0_waitsFor ({ frames := 2, cells := 0, slots := 0, locals := 42 } : Room) zTT D [(cI, .int), (cZ, .boolean)] (wX0 cI cZ h a u) [.ref h, .int p1] (fun (r : Int32) (_ : Unit) => r = r_X0_waitsFor u p1) (fun _ => (wX0 cI cZ h a u)) 0 0 := by
  refine z_startI (cc := cX0_waitsFor) (n := 2) (own := RX0) (L0 := [(0, .ref h), (1, .int p1)]) (plainFor_of_name (by decide)) rfl rfl (Nat.le_of_ble_eq_true rfl) rfl (fun E hret => ?_)
  have hixnn : ix (u.1 16) = nn := by rw [hnn]; exact nI_clamp (by omega)
  refine z_aload_n 0 dX0_waitsFor_0 rfl ?_
  refine z_iload_n 1 dX0_waitsFor_1 rfl ?_
  have e_2_0 : (e_X0_requireNotice u p1) = 0 := Decidable.byContradiction (fun hq => by rw [e_X0_waitsFor, if_neg hq] at he; exact hq he)
  refine z_callVv (As := [.int p1]) (st := []) (fun l => c_X0_requireNotice l D cI cZ h a u p1 (by assumption)) zGok_TT (fun _ _ _ => trivial) (fun s args hts => cwV 1 hts gX0_waitsFor_X0_requireNotice rfl rfl rfl (by decide +kernel) ⟨Nat.le_of_ble_eq_true rfl, Nat.le_of_ble_eq_true rfl⟩) (ci := 0) rfl rfl rfl rfl (Nat.le_of_ble_eq_true rfl) ⟨Nat.le_of_ble_eq_true rfl, Nat.le_of_ble_eq_true rfl⟩ dX0_waitsFor_2 rfl (fun u2 hp => ?_)
  clear hp
  refine z_aload_n 0 dX0_waitsFor_5 rfl ?_
  refine z_iload_n 1 dX0_waitsFor_6 rfl ?_
  refine z_callVi (As := [.int p1]) (st := []) (fun l => c_X0_waitsNow l D cI cZ h a u p1 (by first | (with_reducible assumption) | with_reducible exact znot hnn hn (by assumption) | exact hnn | assumption | decide)) zGok_TT (fun _ _ _ => trivial) (fun s args hts => cwV 1 hts gX0_waitsFor_X0_waitsNow rfl rfl rfl (by decide +kernel) ⟨Nat.le_of_ble_eq_true rfl, Nat.le_of_ble_eq_true rfl⟩) (ci := 0) rfl rfl rfl rfl (Nat.le_of_ble_eq_true rfl) ⟨Nat.le_of_ble_eq_true rfl, Nat.le_of_ble_eq_true rfl⟩ dX0_waitsFor_7 rfl (fun r u2 hp => ?_)
  subst hp
  exact hret _ () _ _ _ dX0_waitsFor_10 (by rw [r_X0_waitsFor]) rfl
set_option maxHeartbeats 4000000 in
set_option maxRecDepth 100000 in
theorem t_X0_waitsFor (l : Launch) (hlt : l.stackTraces = false) (D : va_G) (cI cZ : ClassId) (h : Nat) (a : Nat → Nat) (u : SX) (p1 : Int32) (he : e_X0_waitsFor u p1 ≠ 0) (nn : Nat) (hnn : u.1 16 = nI nn) (hn : nn ≤ 120) : zMx l yX0_waitsFor wsX0_waitsFor ({ frames := 7, cells := 1, slots := 6, locals := 103 } : Room) D [(cI, .int), (cZ, .boolean)] (wX0 cI cZ h a u) [.ref h, .int p1] (fun E' => E' = zEx (e_X0_waitsFor u p1)) := by
  refine z_startX (cc := cX0_waitsFor) (n := 2) (own := RX0) (L0 := [(0, .ref h), (1, .int p1)]) hlt (by decide) rfl rfl (Nat.le_of_ble_eq_true rfl) rfl ⟨Nat.le_of_ble_eq_true rfl, Nat.le_of_ble_eq_true rfl⟩ (fun E hlt hthr hthrow => ?_)
  refine z_aload_n 0 dX0_waitsFor_0 rfl ?_
  refine z_iload_n 1 dX0_waitsFor_1 rfl ?_
  by_cases e_2_0 : (e_X0_requireNotice u p1) = 0
  ·
    refine z_callVv (As := [.int p1]) (st := []) (fun l => c_X0_requireNotice l D cI cZ h a u p1 (by assumption)) zGok_TT (fun _ _ _ => trivial) (fun s args hts => cwV 1 hts gX0_waitsFor_X0_requireNotice rfl rfl rfl (by decide +kernel) ⟨Nat.le_of_ble_eq_true rfl, Nat.le_of_ble_eq_true rfl⟩) (ci := 0) rfl rfl rfl rfl (Nat.le_of_ble_eq_true rfl) ⟨Nat.le_of_ble_eq_true rfl, Nat.le_of_ble_eq_true rfl⟩ dX0_waitsFor_2 rfl (fun u2 hp => ?_)
    clear hp
    exact absurd (by rw [e_X0_waitsFor, if_pos e_2_0]) he
  ·
    refine z_callVx (As := [.int p1]) (st := []) hlt (fun l hl => t_X0_requireNotice l hl D cI cZ h a u p1 (by assumption)) (fun s args hts => cwV 1 hts gX0_waitsFor_X0_requireNotice rfl rfl rfl (by decide +kernel) ⟨Nat.le_of_ble_eq_true rfl, Nat.le_of_ble_eq_true rfl⟩) (ci := 0) rfl rfl rfl rfl (Nat.le_of_ble_eq_true rfl) ⟨Nat.le_of_ble_eq_true rfl, Nat.le_of_ble_eq_true rfl⟩ dX0_waitsFor_2 rfl ?_
    exact hthr _ _ _ (fun E' hE => by rw [e_X0_waitsFor, if_neg e_2_0]; exact hE)
set_option maxHeartbeats 4000000 in
set_option maxRecDepth 100000 in
theorem c_X0_deliveredTo (l : Launch) (D : va_G) (cI cZ : ClassId) (h : Nat) (a : Nat → Nat) (u : SX) (p1 : Int32) (he : e_X0_deliveredTo u p1 = 0) (nn : Nat) (hnn : u.1 16 = nI nn) (hn : nn ≤ 120) : zMi l yX0_deliveredTo wsX0_deliveredTo ({ frames := 1, cells := 0, slots := 0, locals := 21 } : Room) zTT D [(cI, .int), (cZ, .boolean)] (wX0 cI cZ h a u) [.ref h, .int p1] (fun (r : Int32) (_ : Unit) => r = r_X0_deliveredTo u p1) (fun _ => (wX0 cI cZ h a u)) 0 0 := by
  refine z_startI (cc := cX0_deliveredTo) (n := 2) (own := RX0) (L0 := [(0, .ref h), (1, .int p1)]) (plainFor_of_name (by decide)) rfl rfl (Nat.le_of_ble_eq_true rfl) rfl (fun E hret => ?_)
  have hixnn : ix (u.1 16) = nn := by rw [hnn]; exact nI_clamp (by omega)
  refine z_aload_n 0 dX0_deliveredTo_0 rfl ?_
  refine z_iload_n 1 dX0_deliveredTo_1 rfl ?_
  have e_2_0 : (e_X0_requireNotice u p1) = 0 := Decidable.byContradiction (fun hq => by rw [e_X0_deliveredTo, if_neg hq] at he; exact hq he)
  refine z_callVv (As := [.int p1]) (st := []) (fun l => c_X0_requireNotice l D cI cZ h a u p1 (by assumption)) zGok_TT (fun _ _ _ => trivial) (fun s args hts => cwV 1 hts gX0_deliveredTo_X0_requireNotice rfl rfl rfl (by decide +kernel) ⟨Nat.le_of_ble_eq_true rfl, Nat.le_of_ble_eq_true rfl⟩) (ci := 0) rfl rfl rfl rfl (Nat.le_of_ble_eq_true rfl) ⟨Nat.le_of_ble_eq_true rfl, Nat.le_of_ble_eq_true rfl⟩ dX0_deliveredTo_2 rfl (fun u2 hp => ?_)
  clear hp
  refine z_aload_n 0 dX0_deliveredTo_5 rfl ?_
  refine z_get (C := RX0) (T := TX0) (N := 19) (v := .ref (a 14)) inwX0_deliveredTo 0 rfl rfl 14 (by decide) (List.mem_of_getElem? (i := 1) rfl) rfl rfl dX0_deliveredTo_6 ?_
  refine z_iload_n 1 dX0_deliveredTo_9 rfl ?_
  refine z_iald (v := (u.2 14 (ix p1))) 11 0 rfl rfl (by first | (with_reducible assumption) | with_reducible exact znot hnn hn (by assumption) | exact hnn | assumption | decide) rfl dX0_deliveredTo_10 ?_
  exact hret _ () _ _ _ dX0_deliveredTo_11 (by rw [r_X0_deliveredTo]) rfl
set_option maxHeartbeats 4000000 in
set_option maxRecDepth 100000 in
theorem t_X0_deliveredTo (l : Launch) (hlt : l.stackTraces = false) (D : va_G) (cI cZ : ClassId) (h : Nat) (a : Nat → Nat) (u : SX) (p1 : Int32) (he : e_X0_deliveredTo u p1 ≠ 0) (nn : Nat) (hnn : u.1 16 = nI nn) (hn : nn ≤ 120) : zMx l yX0_deliveredTo wsX0_deliveredTo ({ frames := 7, cells := 1, slots := 6, locals := 103 } : Room) D [(cI, .int), (cZ, .boolean)] (wX0 cI cZ h a u) [.ref h, .int p1] (fun E' => E' = zEx (e_X0_deliveredTo u p1)) := by
  refine z_startX (cc := cX0_deliveredTo) (n := 2) (own := RX0) (L0 := [(0, .ref h), (1, .int p1)]) hlt (by decide) rfl rfl (Nat.le_of_ble_eq_true rfl) rfl ⟨Nat.le_of_ble_eq_true rfl, Nat.le_of_ble_eq_true rfl⟩ (fun E hlt hthr hthrow => ?_)
  refine z_aload_n 0 dX0_deliveredTo_0 rfl ?_
  refine z_iload_n 1 dX0_deliveredTo_1 rfl ?_
  by_cases e_2_0 : (e_X0_requireNotice u p1) = 0
  ·
    refine z_callVv (As := [.int p1]) (st := []) (fun l => c_X0_requireNotice l D cI cZ h a u p1 (by assumption)) zGok_TT (fun _ _ _ => trivial) (fun s args hts => cwV 1 hts gX0_deliveredTo_X0_requireNotice rfl rfl rfl (by decide +kernel) ⟨Nat.le_of_ble_eq_true rfl, Nat.le_of_ble_eq_true rfl⟩) (ci := 0) rfl rfl rfl rfl (Nat.le_of_ble_eq_true rfl) ⟨Nat.le_of_ble_eq_true rfl, Nat.le_of_ble_eq_true rfl⟩ dX0_deliveredTo_2 rfl (fun u2 hp => ?_)
    clear hp
    exact absurd (by rw [e_X0_deliveredTo, if_pos e_2_0]) he
  ·
    refine z_callVx (As := [.int p1]) (st := []) hlt (fun l hl => t_X0_requireNotice l hl D cI cZ h a u p1 (by assumption)) (fun s args hts => cwV 1 hts gX0_deliveredTo_X0_requireNotice rfl rfl rfl (by decide +kernel) ⟨Nat.le_of_ble_eq_true rfl, Nat.le_of_ble_eq_true rfl⟩) (ci := 0) rfl rfl rfl rfl (Nat.le_of_ble_eq_true rfl) ⟨Nat.le_of_ble_eq_true rfl, Nat.le_of_ble_eq_true rfl⟩ dX0_deliveredTo_2 rfl ?_
    exact hthr _ _ _ (fun E' hE => by rw [e_X0_deliveredTo, if_neg e_2_0]; exact hE)
set_option maxHeartbeats 4000000 in
set_option maxRecDepth 100000 in
theorem c_X0_standing (l : Launch) (D : va_G) (cI cZ : ClassId) (h : Nat) (a : Nat → Nat) (u : SX) (p1 p2 : Int32) (he : e_X0_standing u p1 p2 = 0) (hlk : ∀ i : Nat, i < 80 → (u.2 15 i) = (-1) ∨ vp_in (u.2 15 i) 120) : zMi l yX0_standing wsX0_standing ({ frames := 1, cells := 0, slots := 0, locals := 22 } : Room) zTT D [(cI, .int), (cZ, .boolean)] (wX0 cI cZ h a u) [.ref h, .int p1, .int p2] (fun (r : Int32) (_ : Unit) => r = r_X0_standing u p1 p2) (fun _ => (wX0 cI cZ h a u)) 0 0 := by
  refine z_startI (cc := cX0_standing) (n := 4) (own := RX0) (L0 := [(0, .ref h), (1, .int p1), (2, .int p2)]) (plainFor_of_name (by decide)) rfl rfl (Nat.le_of_ble_eq_true rfl) rfl (fun E hret => ?_)
  refine z_iload_n 1 dX0_standing_0 rfl ?_
  refine z_iconst (v := 0) dX0_standing_1 rfl ?_
  refine z_bipush (v := 7) dX0_standing_2 rfl ?_
  have e_4_0 : (e_X0_requireWithin p1 0 7) = 0 := Decidable.byContradiction (fun hq => by rw [e_X0_standing, if_neg hq] at he; exact hq he)
  refine z_callSv (As := [.int p1, .int 0, .int 7]) (st := []) (fun l => c_X0_requireWithin l D _ _ p1 0 7 (by assumption)) zGok_TT (fun _ _ _ => trivial) (fun s args hts => va_cwS 3 hts gX0_standing_X0_requireWithin rfl rfl rfl (by decide +kernel) ⟨Nat.le_of_ble_eq_true rfl, Nat.le_of_ble_eq_true rfl⟩) rfl (Nat.le_of_ble_eq_true rfl) ⟨Nat.le_of_ble_eq_true rfl, Nat.le_of_ble_eq_true rfl⟩ dX0_standing_4 rfl (fun u2 hp => ?_)
  clear hp
  refine z_iload_n 2 dX0_standing_7 rfl ?_
  refine z_iconst (v := 0) dX0_standing_8 rfl ?_
  refine z_bipush (v := 9) dX0_standing_9 rfl ?_
  have e_11_1 : (e_X0_requireWithin p2 0 9) = 0 := Decidable.byContradiction (fun hq => by rw [e_X0_standing, if_pos e_4_0, if_neg hq] at he; exact hq he)
  refine z_callSv (As := [.int p2, .int 0, .int 9]) (st := []) (fun l => c_X0_requireWithin l D _ _ p2 0 9 (by assumption)) zGok_TT (fun _ _ _ => trivial) (fun s args hts => va_cwS 3 hts gX0_standing_X0_requireWithin rfl rfl rfl (by decide +kernel) ⟨Nat.le_of_ble_eq_true rfl, Nat.le_of_ble_eq_true rfl⟩) rfl (Nat.le_of_ble_eq_true rfl) ⟨Nat.le_of_ble_eq_true rfl, Nat.le_of_ble_eq_true rfl⟩ dX0_standing_11 rfl (fun u2 hp => ?_)
  clear hp
  refine z_aload_n 0 dX0_standing_14 rfl ?_
  refine z_get (C := RX0) (T := TX0) (N := 19) (v := .ref (a 15)) inwX0_standing 0 rfl rfl 15 (by decide) (List.mem_of_getElem? (i := 1) rfl) rfl rfl dX0_standing_15 ?_
  refine z_iload_n 1 dX0_standing_18 rfl ?_
  refine z_iload_n 2 dX0_standing_19 rfl ?_
  refine z_callSi (As := [.int p1, .int p2]) (st := [.ref (a 15)]) (fun l => c_X0_placeOf l D _ _ p1 p2) zGok_TT (fun _ _ _ => trivial) (fun s args hts => va_cwS 2 hts gX0_standing_X0_placeOf rfl rfl rfl (by decide +kernel) ⟨Nat.le_of_ble_eq_true rfl, Nat.le_of_ble_eq_true rfl⟩) rfl (Nat.le_of_ble_eq_true rfl) ⟨Nat.le_of_ble_eq_true rfl, Nat.le_of_ble_eq_true rfl⟩ dX0_standing_20 rfl (fun r u2 hp => ?_)
  subst hp
  refine z_iald (v := (u.2 15 (ix (r_X0_placeOf p1 p2)))) 12 0 rfl rfl (by first | (with_reducible assumption) | with_reducible exact zwithin (by assumption) (by decide) (by decide) | with_reducible exact zplaceW (by assumption) (by assumption) | with_reducible exact (zlk hlk (zplaceW (by assumption) (by assumption))).resolve_left (by assumption) | assumption | decide) rfl dX0_standing_23 ?_
  refine z_istore_n (L' := [(3, .int (u.2 15 (ix (r_X0_placeOf p1 p2)))), (0, .ref h), (1, .int p1), (2, .int p2)]) dX0_standing_24 (by decide) rfl ?_
  refine z_iload_n 0 dX0_standing_25 rfl ?_
  refine z_iconst (v := (-1)) dX0_standing_26 rfl ?_
  refine z_icmp_eq 42 dX0_standing_27 (by decide) (fun c_27_2 => ?_) (fun c_27_2 => ?_)
  ·
    refine z_iconst (v := (-1)) dX0_standing_42 rfl ?_
    exact hret _ () _ _ _ dX0_standing_43 (by rw [r_X0_standing, if_pos c_27_2]) rfl
  ·
    refine z_aload_n 1 dX0_standing_30 rfl ?_
    refine z_iload_n 0 dX0_standing_31 rfl ?_
    refine z_callVi (As := [.int (u.2 15 (ix (r_X0_placeOf p1 p2)))]) (st := []) (fun l => c_X0_isStanding l D cI cZ h a u (u.2 15 (ix (r_X0_placeOf p1 p2))) (by first | (with_reducible assumption) | with_reducible exact zwithin (by assumption) (by decide) (by decide) | with_reducible exact zplaceW (by assumption) (by assumption) | with_reducible exact (zlk hlk (zplaceW (by assumption) (by assumption))).resolve_left (by assumption) | assumption | decide)) zGok_TT (fun _ _ _ => trivial) (fun s args hts => cwV 1 hts gX0_standing_X0_isStanding rfl rfl rfl (by decide +kernel) ⟨Nat.le_of_ble_eq_true rfl, Nat.le_of_ble_eq_true rfl⟩) (ci := 0) rfl rfl rfl rfl (Nat.le_of_ble_eq_true rfl) ⟨Nat.le_of_ble_eq_true rfl, Nat.le_of_ble_eq_true rfl⟩ dX0_standing_32 rfl (fun r u2 hp => ?_)
    subst hp
    refine z_if_eq 42 dX0_standing_35 (by decide) (fun c_35_3 => ?_) (fun c_35_3 => ?_)
    ·
      refine z_iconst (v := (-1)) dX0_standing_42 rfl ?_
      exact hret _ () _ _ _ dX0_standing_43 (by rw [r_X0_standing, if_neg c_27_2, if_pos c_35_3]) rfl
    ·
      refine z_iload_n 0 dX0_standing_38 rfl ?_
      refine z_goto 43 dX0_standing_39 (by decide) ?_
      exact hret _ () _ _ _ dX0_standing_43 (by rw [r_X0_standing, if_neg c_27_2, if_neg c_35_3]) rfl
set_option maxHeartbeats 4000000 in
set_option maxRecDepth 100000 in
theorem t_X0_standing (l : Launch) (hlt : l.stackTraces = false) (D : va_G) (cI cZ : ClassId) (h : Nat) (a : Nat → Nat) (u : SX) (p1 p2 : Int32) (he : e_X0_standing u p1 p2 ≠ 0) (hlk : ∀ i : Nat, i < 80 → (u.2 15 i) = (-1) ∨ vp_in (u.2 15 i) 120) : zMx l yX0_standing wsX0_standing ({ frames := 7, cells := 1, slots := 6, locals := 104 } : Room) D [(cI, .int), (cZ, .boolean)] (wX0 cI cZ h a u) [.ref h, .int p1, .int p2] (fun E' => E' = zEx (e_X0_standing u p1 p2)) := by
  refine z_startX (cc := cX0_standing) (n := 4) (own := RX0) (L0 := [(0, .ref h), (1, .int p1), (2, .int p2)]) hlt (by decide) rfl rfl (Nat.le_of_ble_eq_true rfl) rfl ⟨Nat.le_of_ble_eq_true rfl, Nat.le_of_ble_eq_true rfl⟩ (fun E hlt hthr hthrow => ?_)
  refine z_iload_n 1 dX0_standing_0 rfl ?_
  refine z_iconst (v := 0) dX0_standing_1 rfl ?_
  refine z_bipush (v := 7) dX0_standing_2 rfl ?_
  by_cases e_4_0 : (e_X0_requireWithin p1 0 7) = 0
  ·
    refine z_callSv (As := [.int p1, .int 0, .int 7]) (st := []) (fun l => c_X0_requireWithin l D _ _ p1 0 7 (by assumption)) zGok_TT (fun _ _ _ => trivial) (fun s args hts => va_cwS 3 hts gX0_standing_X0_requireWithin rfl rfl rfl (by decide +kernel) ⟨Nat.le_of_ble_eq_true rfl, Nat.le_of_ble_eq_true rfl⟩) rfl (Nat.le_of_ble_eq_true rfl) ⟨Nat.le_of_ble_eq_true rfl, Nat.le_of_ble_eq_true rfl⟩ dX0_standing_4 rfl (fun u2 hp => ?_)
    clear hp
    refine z_iload_n 2 dX0_standing_7 rfl ?_
    refine z_iconst (v := 0) dX0_standing_8 rfl ?_
    refine z_bipush (v := 9) dX0_standing_9 rfl ?_
    by_cases e_11_1 : (e_X0_requireWithin p2 0 9) = 0
    ·
      refine z_callSv (As := [.int p2, .int 0, .int 9]) (st := []) (fun l => c_X0_requireWithin l D _ _ p2 0 9 (by assumption)) zGok_TT (fun _ _ _ => trivial) (fun s args hts => va_cwS 3 hts gX0_standing_X0_requireWithin rfl rfl rfl (by decide +kernel) ⟨Nat.le_of_ble_eq_true rfl, Nat.le_of_ble_eq_true rfl⟩) rfl (Nat.le_of_ble_eq_true rfl) ⟨Nat.le_of_ble_eq_true rfl, Nat.le_of_ble_eq_true rfl⟩ dX0_standing_11 rfl (fun u2 hp => ?_)
      clear hp
      exact absurd (by rw [e_X0_standing, if_pos e_4_0, if_pos e_11_1]) he
    ·
      refine z_callSx (As := [.int p2, .int 0, .int 9]) (st := []) hlt (fun l hl => t_X0_requireWithin l hl D _ _ p2 0 9 (by assumption)) (fun s args hts => va_cwS 3 hts gX0_standing_X0_requireWithin rfl rfl rfl (by decide +kernel) ⟨Nat.le_of_ble_eq_true rfl, Nat.le_of_ble_eq_true rfl⟩) rfl (Nat.le_of_ble_eq_true rfl) ⟨Nat.le_of_ble_eq_true rfl, Nat.le_of_ble_eq_true rfl⟩ dX0_standing_11 rfl ?_
      exact hthr _ _ _ (fun E' hE => by rw [e_X0_standing, if_pos e_4_0, if_neg e_11_1]; exact hE)
  ·
    refine z_callSx (As := [.int p1, .int 0, .int 7]) (st := []) hlt (fun l hl => t_X0_requireWithin l hl D _ _ p1 0 7 (by assumption)) (fun s args hts => va_cwS 3 hts gX0_standing_X0_requireWithin rfl rfl rfl (by decide +kernel) ⟨Nat.le_of_ble_eq_true rfl, Nat.le_of_ble_eq_true rfl⟩) rfl (Nat.le_of_ble_eq_true rfl) ⟨Nat.le_of_ble_eq_true rfl, Nat.le_of_ble_eq_true rfl⟩ dX0_standing_4 rfl ?_
    exact hthr _ _ _ (fun E' hE => by rw [e_X0_standing, if_neg e_4_0]; exact hE)

def wp_JL_bitCount (a0 : Int64) (u : zz_St) (post : Int32 → zz_St → Prop) : Prop :=
  ∀ v1 : Int64, v1 = a0 - (((a0.toUInt64 >>> ((1 : Int32).toInt64.toUInt64 &&& Int64.toUInt64 63)).toInt64) &&& 6148914691236517205) → (∀ v2 : Int64, v2 = (v1 &&& 3689348814741910323) + (((v1.toUInt64 >>> ((2 : Int32).toInt64.toUInt64 &&& Int64.toUInt64 63)).toInt64) &&& 3689348814741910323) → (∀ v3 : Int64, v3 = (v2 + ((v2.toUInt64 >>> ((4 : Int32).toInt64.toUInt64 &&& Int64.toUInt64 63)).toInt64)) &&& 1085102592571150095 → (∀ v4 : Int64, v4 = v3 + ((v3.toUInt64 >>> ((8 : Int32).toInt64.toUInt64 &&& Int64.toUInt64 63)).toInt64) → (∀ v5 : Int64, v5 = v4 + ((v4.toUInt64 >>> ((16 : Int32).toInt64.toUInt64 &&& Int64.toUInt64 63)).toInt64) → (∀ v6 : Int64, v6 = v5 + ((v5.toUInt64 >>> ((32 : Int32).toInt64.toUInt64 &&& Int64.toUInt64 63)).toInt64) → (post (v6.toInt32 &&& 127) u))))))
def wp_JA_fillI_GthemeOf_5 (post : zz_St → Prop) (kn5 : Int32 → Int32 → Int32 → zz_St → Prop) (x1 : Int32) (x2 : Int32) (x3 : Int32) (u : zz_St) : Prop :=
  (x3 ≤ x2 → (post u)) ∧ (¬ x3 ≤ x2 → ((vp_in x2 24 ∧ (kn5 x1 (x2 + 1) x3 (ss_a u 5 (upd (sg_a u 5) x2.toNatClampNeg x1))))))
def wp_JA_fillI_GthemeOf_5_f (post : zz_St → Prop) : Nat → Int32 → Int32 → Int32 → zz_St → Prop
  | 0 => fun _ _ _ _ => False
  | n + 1 => wp_JA_fillI_GthemeOf_5 post (wp_JA_fillI_GthemeOf_5_f post n)
def wp_JA_fillI_GthemeOf (a1 : Int32) (u : zz_St) (post : zz_St → Prop) : Prop :=
  ∃ n : Nat, wp_JA_fillI_GthemeOf_5_f post  n a1 0 24 u
def wp_JA_fillI_GslotThrough_5 (post : zz_St → Prop) (kn5 : Int32 → Int32 → Int32 → zz_St → Prop) (x1 : Int32) (x2 : Int32) (x3 : Int32) (u : zz_St) : Prop :=
  (x3 ≤ x2 → (post u)) ∧ (¬ x3 ≤ x2 → ((vp_in x2 72 ∧ (kn5 x1 (x2 + 1) x3 (ss_a u 6 (upd (sg_a u 6) x2.toNatClampNeg x1))))))
def wp_JA_fillI_GslotThrough_5_f (post : zz_St → Prop) : Nat → Int32 → Int32 → Int32 → zz_St → Prop
  | 0 => fun _ _ _ _ => False
  | n + 1 => wp_JA_fillI_GslotThrough_5 post (wp_JA_fillI_GslotThrough_5_f post n)
def wp_JA_fillI_GslotThrough (a1 : Int32) (u : zz_St) (post : zz_St → Prop) : Prop :=
  ∃ n : Nat, wp_JA_fillI_GslotThrough_5_f post  n a1 0 72 u
def wp_JA_fillI_GgivenAt_5 (post : zz_St → Prop) (kn5 : Int32 → Int32 → Int32 → zz_St → Prop) (x1 : Int32) (x2 : Int32) (x3 : Int32) (u : zz_St) : Prop :=
  (x3 ≤ x2 → (post u)) ∧ (¬ x3 ≤ x2 → ((vp_in x2 36 ∧ (kn5 x1 (x2 + 1) x3 (ss_a u 1 (upd (sg_a u 1) x2.toNatClampNeg x1))))))
def wp_JA_fillI_GgivenAt_5_f (post : zz_St → Prop) : Nat → Int32 → Int32 → Int32 → zz_St → Prop
  | 0 => fun _ _ _ _ => False
  | n + 1 => wp_JA_fillI_GgivenAt_5 post (wp_JA_fillI_GgivenAt_5_f post n)
def wp_JA_fillI_GgivenAt (a1 : Int32) (u : zz_St) (post : zz_St → Prop) : Prop :=
  ∃ n : Nat, wp_JA_fillI_GgivenAt_5_f post  n a1 0 36 u
def wp_JA_fillJ_LlowOfLength_6 (post : zz_St → Prop) (kn6 : Int64 → Int32 → Int32 → zz_St → Prop) (x1 : Int64) (x3 : Int32) (x4 : Int32) (u : zz_St) : Prop :=
  (x4 ≤ x3 → (post u)) ∧ (¬ x4 ≤ x3 → ((vp_in x3 7 ∧ (kn6 x1 (x3 + 1) x4 (ss_b u 0 (vp_updL (sg_b u 0) x3.toNatClampNeg x1))))))
def wp_JA_fillJ_LlowOfLength_6_f (post : zz_St → Prop) : Nat → Int64 → Int32 → Int32 → zz_St → Prop
  | 0 => fun _ _ _ _ => False
  | n + 1 => wp_JA_fillJ_LlowOfLength_6 post (wp_JA_fillJ_LlowOfLength_6_f post n)
def wp_JA_fillJ_LlowOfLength (a1 : Int64) (u : zz_St) (post : zz_St → Prop) : Prop :=
  ∃ n : Nat, wp_JA_fillJ_LlowOfLength_6_f post  n a1 0 7 u
def wp_JA_fillJ_LhighOfLength_6 (post : zz_St → Prop) (kn6 : Int64 → Int32 → Int32 → zz_St → Prop) (x1 : Int64) (x3 : Int32) (x4 : Int32) (u : zz_St) : Prop :=
  (x4 ≤ x3 → (post u)) ∧ (¬ x4 ≤ x3 → ((vp_in x3 7 ∧ (kn6 x1 (x3 + 1) x4 (ss_b u 1 (vp_updL (sg_b u 1) x3.toNatClampNeg x1))))))
def wp_JA_fillJ_LhighOfLength_6_f (post : zz_St → Prop) : Nat → Int64 → Int32 → Int32 → zz_St → Prop
  | 0 => fun _ _ _ _ => False
  | n + 1 => wp_JA_fillJ_LhighOfLength_6 post (wp_JA_fillJ_LhighOfLength_6_f post n)
def wp_JA_fillJ_LhighOfLength (a1 : Int64) (u : zz_St) (post : zz_St → Prop) : Prop :=
  ∃ n : Nat, wp_JA_fillJ_LhighOfLength_6_f post  n a1 0 7 u
def wp_JA_fillJ_LlowOfKey_6 (post : zz_St → Prop) (kn6 : Int64 → Int32 → Int32 → zz_St → Prop) (x1 : Int64) (x3 : Int32) (x4 : Int32) (u : zz_St) : Prop :=
  (x4 ≤ x3 → (post u)) ∧ (¬ x4 ≤ x3 → ((vp_in x3 156 ∧ (kn6 x1 (x3 + 1) x4 (ss_b u 2 (vp_updL (sg_b u 2) x3.toNatClampNeg x1))))))
def wp_JA_fillJ_LlowOfKey_6_f (post : zz_St → Prop) : Nat → Int64 → Int32 → Int32 → zz_St → Prop
  | 0 => fun _ _ _ _ => False
  | n + 1 => wp_JA_fillJ_LlowOfKey_6 post (wp_JA_fillJ_LlowOfKey_6_f post n)
def wp_JA_fillJ_LlowOfKey (a1 : Int64) (u : zz_St) (post : zz_St → Prop) : Prop :=
  ∃ n : Nat, wp_JA_fillJ_LlowOfKey_6_f post  n a1 0 156 u
def wp_JA_fillJ_LhighOfKey_6 (post : zz_St → Prop) (kn6 : Int64 → Int32 → Int32 → zz_St → Prop) (x1 : Int64) (x3 : Int32) (x4 : Int32) (u : zz_St) : Prop :=
  (x4 ≤ x3 → (post u)) ∧ (¬ x4 ≤ x3 → ((vp_in x3 156 ∧ (kn6 x1 (x3 + 1) x4 (ss_b u 3 (vp_updL (sg_b u 3) x3.toNatClampNeg x1))))))
def wp_JA_fillJ_LhighOfKey_6_f (post : zz_St → Prop) : Nat → Int64 → Int32 → Int32 → zz_St → Prop
  | 0 => fun _ _ _ _ => False
  | n + 1 => wp_JA_fillJ_LhighOfKey_6 post (wp_JA_fillJ_LhighOfKey_6_f post n)
def wp_JA_fillJ_LhighOfKey (a1 : Int64) (u : zz_St) (post : zz_St → Prop) : Prop :=
  ∃ n : Nat, wp_JA_fillJ_LhighOfKey_6_f post  n a1 0 156 u
def wp_G_cellAt (a0 : Int32) (a1 : Int32) (u : zz_St) (post : Int32 → zz_St → Prop) : Prop :=
  (a0 < 0 → (post (-1) u)) ∧ (¬ a0 < 0 → (((sg_i u 0) ≤ a0 → (post (-1) u)) ∧ (¬ (sg_i u 0) ≤ a0 → ((a1 < 0 → (post (-1) u)) ∧ (¬ a1 < 0 → (((sg_i u 1) ≤ a1 → (post (-1) u)) ∧ (¬ (sg_i u 1) ≤ a1 → (post (a0 + ((sg_i u 0) * a1)) u))))))))
def wp_G_hasSlot (a0 : Int32) (u : zz_St) (post : Int32 → zz_St → Prop) : Prop :=
  (a0 < 0 → (post 0 u)) ∧ (¬ a0 < 0 → (((sg_i u 3) ≤ a0 → (post 0 u)) ∧ (¬ (sg_i u 3) ≤ a0 → (post 1 u))))
def wp_G_cellOf (a0 : Int32) (a1 : Int32) (u : zz_St) (post : Int32 → zz_St → Prop) : Prop :=
  vp_in a0 24 ∧ (vp_in a0 24 ∧ (((sg_a u 4 a0.toNatClampNeg) = 0 → (post ((sg_a u 2 a0.toNatClampNeg) + (a1 * 1)) u)) ∧ (¬ (sg_a u 4 a0.toNatClampNeg) = 0 → (post ((sg_a u 2 a0.toNatClampNeg) + (a1 * (sg_i u 0))) u))))
def wp_G_slotAt (a0 : Int32) (a1 : Int32) (u : zz_St) (post : Int32 → zz_St → Prop) : Prop :=
  vp_in ((a1 * 36) + a0) 72 ∧ (post (sg_a u 6 ((a1 * 36) + a0).toNatClampNeg) u)
def wp_G_placeAt (a0 : Int32) (a1 : Int32) (u : zz_St) (post : Int32 → zz_St → Prop) : Prop :=
  vp_in ((a1 * 36) + a0) 72 ∧ (post (sg_a u 7 ((a1 * 36) + a0).toNatClampNeg) u)
def wp_G_isOpen (a0 : Int32) (a1 : Int32) (u : zz_St) (post : Int32 → zz_St → Prop) : Prop :=
  wp_G_cellAt a0 a1 u (fun r2 s1 => ((r2 = (-1) → (post 0 s1)) ∧ (¬ r2 = (-1) → (vp_in r2 36 ∧ (((sg_a s1 0 r2.toNatClampNeg) = 0 → (post 1 s1)) ∧ (¬ (sg_a s1 0 r2.toNatClampNeg) = 0 → (post 0 s1)))))))
def wp_G_markCells_2 (post : zz_St → Prop) (kn2 : Int32 → Int32 → zz_St → Prop) (x1 : Int32) (x2 : Int32) (u : zz_St) : Prop :=
  vp_in x1 24 ∧ (((sg_a u 3 x1.toNatClampNeg) ≤ x2 → (post u)) ∧ (¬ (sg_a u 3 x1.toNatClampNeg) ≤ x2 → (vp_in x1 24 ∧ (wp_G_cellOf x1 x2 u (fun r3 s2 => (∀ v4 : Int32, v4 = ((sg_a u 4 x1.toNatClampNeg) * 36) + r3 → ((vp_in v4 72 ∧ ((vp_in v4 72 ∧ (kn2 x1 (x2 + 1) (ss_a (ss_a s2 6 (upd (sg_a s2 6) v4.toNatClampNeg x1)) 7 (upd (sg_a s2 7) v4.toNatClampNeg x2)))))))))))))
def wp_G_markCells_2_f (post : zz_St → Prop) : Nat → Int32 → Int32 → zz_St → Prop
  | 0 => fun _ _ _ => False
  | n + 1 => wp_G_markCells_2 post (wp_G_markCells_2_f post n)
def wp_G_markCells (a0 : Int32) (u : zz_St) (post : zz_St → Prop) : Prop :=
  ∃ n : Nat, wp_G_markCells_2_f post  n a0 0 u
def wp_G_addSlotFrom_70 (post : zz_St → Prop) (x1 : Int32) (x2 : Int32) (x3 : Int32) (x6 : Int32) (u : zz_St) : Prop :=
  (x6 < 2 → (post u)) ∧ (¬ x6 < 2 → ((24 ≤ (sg_i u 3) → (post u)) ∧ (¬ 24 ≤ (sg_i u 3) → (wp_G_cellAt x1 x2 u (fun r13 s12 => ((vp_in (sg_i u 3) 24 ∧ ((vp_in (sg_i s12 3) 24 ∧ ((vp_in (sg_i s12 3) 24 ∧ (wp_G_markCells (sg_i s12 3) (ss_a (ss_a (ss_a s12 2 (upd (sg_a s12 2) (sg_i u 3).toNatClampNeg r13)) 3 (upd (sg_a s12 3) (sg_i s12 3).toNatClampNeg x6)) 4 (upd (sg_a s12 4) (sg_i s12 3).toNatClampNeg x3)) (fun s14 => (∀ v15 : Int32, v15 = (sg_i s14 3) + 1 → (post (ss_i s14 3 v15))))))))))))))))
def wp_G_addSlotFrom_36 (post : zz_St → Prop) (kn36 : Int32 → Int32 → Int32 → Int32 → Int32 → Int32 → zz_St → Prop) (x1 : Int32) (x2 : Int32) (x3 : Int32) (x4 : Int32) (x5 : Int32) (x6 : Int32) (u : zz_St) : Prop :=
  (6 ≤ x6 → (wp_G_addSlotFrom_70 post  x1 x2 x3 x6 u)) ∧ (¬ 6 ≤ x6 → (wp_G_isOpen (x1 + (x6 * x4)) (x2 + (x6 * x5)) u (fun r8 s7 => ((r8 = 0 → (wp_G_addSlotFrom_70 post x1 x2 x3 x6 s7)) ∧ (¬ r8 = 0 → (kn36 x1 x2 x3 x4 x5 (x6 + 1) s7))))))
def wp_G_addSlotFrom_36_f (post : zz_St → Prop) : Nat → Int32 → Int32 → Int32 → Int32 → Int32 → Int32 → zz_St → Prop
  | 0 => fun _ _ _ _ _ _ _ => False
  | n + 1 => wp_G_addSlotFrom_36 post (wp_G_addSlotFrom_36_f post n)
def wp_G_addSlotFrom_9 (post : zz_St → Prop) (x1 : Int32) (x2 : Int32) (x3 : Int32) (y0 : Int32) (u : zz_St) : Prop :=
  ∀ v2 : Int32, v2 = 1 - y0 → (wp_G_isOpen (x1 - y0) (x2 - v2) u (fun r4 s3 => ((r4 = 0 → (∃ n : Nat, wp_G_addSlotFrom_36_f post n x1 x2 x3 y0 v2 0 s3)) ∧ (¬ r4 = 0 → (post s3)))))
def wp_G_addSlotFrom (a0 : Int32) (a1 : Int32) (a2 : Int32) (u : zz_St) (post : zz_St → Prop) : Prop :=
  (a2 = 0 → (wp_G_addSlotFrom_9 post  a0 a1 a2 1 u)) ∧ (¬ a2 = 0 → (wp_G_addSlotFrom_9 post  a0 a1 a2 0 u))
def wp_G_findSlots_40 (post : zz_St → Prop) (kn23 : Int32 → zz_St → Prop) (kn30 : Int32 → Int32 → zz_St → Prop) (kn40 : Int32 → Int32 → Int32 → zz_St → Prop) (x1 : Int32) (x2 : Int32) (x3 : Int32) (u : zz_St) : Prop :=
  ((sg_i u 0) ≤ x3 → (kn30 x1 (x2 + 1) u)) ∧ (¬ (sg_i u 0) ≤ x3 → (wp_G_addSlotFrom x3 x2 x1 u (fun s6 => (kn40 x1 x2 (x3 + 1) s6))))
def wp_G_findSlots_40_f (post : zz_St → Prop) (kn23 : Int32 → zz_St → Prop) (kn30 : Int32 → Int32 → zz_St → Prop) : Nat → Int32 → Int32 → Int32 → zz_St → Prop
  | 0 => fun _ _ _ _ => False
  | n + 1 => wp_G_findSlots_40 post kn23 kn30 (wp_G_findSlots_40_f post kn23 kn30 n)
def wp_G_findSlots_30 (post : zz_St → Prop) (kn23 : Int32 → zz_St → Prop) (kn30 : Int32 → Int32 → zz_St → Prop) (x1 : Int32) (x2 : Int32) (u : zz_St) : Prop :=
  ((sg_i u 1) ≤ x2 → (kn23 (x1 + 1) u)) ∧ (¬ (sg_i u 1) ≤ x2 → (∃ n : Nat, wp_G_findSlots_40_f post kn23 kn30 n x1 x2 0 u))
def wp_G_findSlots_30_f (post : zz_St → Prop) (kn23 : Int32 → zz_St → Prop) : Nat → Int32 → Int32 → zz_St → Prop
  | 0 => fun _ _ _ => False
  | n + 1 => wp_G_findSlots_30 post kn23 (wp_G_findSlots_30_f post kn23 n)
def wp_G_findSlots_23 (post : zz_St → Prop) (kn23 : Int32 → zz_St → Prop) (x1 : Int32) (u : zz_St) : Prop :=
  (1 < x1 → (post u)) ∧ (¬ 1 < x1 → (∃ n : Nat, wp_G_findSlots_30_f post kn23 n x1 0 u))
def wp_G_findSlots_23_f (post : zz_St → Prop) : Nat → Int32 → zz_St → Prop
  | 0 => fun _ _ => False
  | n + 1 => wp_G_findSlots_23 post (wp_G_findSlots_23_f post n)
def wp_G_findSlots (u : zz_St) (post : zz_St → Prop) : Prop :=
  wp_JA_fillI_GthemeOf (-1) (ss_i u 3 0) (fun s1 => (wp_JA_fillI_GslotThrough (-1) s1 (fun s2 => (∃ n : Nat, wp_G_findSlots_23_f post n 0 s2))))
def wp_G_paint (a0 : Int32) (a1 : Int32) (u : zz_St) (post : zz_St → Prop) : Prop :=
  (vp_in a0 36 ∧ ((a1 = 0 ∨ a1 = 1) ∧ wp_JA_fillI_GgivenAt 0 (ss_a u 0 (upd (sg_a u 0) a0.toNatClampNeg a1)) (fun s1 => (wp_G_findSlots s1 (fun s2 => (post s2))))))
def wp_G_imageIsOpen (a0 : Int32) (a1 : Int32) (a2 : Int32) (u : zz_St) (post : Int32 → zz_St → Prop) : Prop :=
  (a0 = 0 → (wp_G_isOpen (((sg_i u 0) - 1) - a1) (((sg_i u 1) - 1) - a2) u (fun r2 s1 => ((r2 = 0 ∨ r2 = 1) ∧ post r2 s1)))) ∧ (a0 = 1 → (wp_G_isOpen (((sg_i u 0) - 1) - a1) a2 u (fun r4 s3 => ((r4 = 0 ∨ r4 = 1) ∧ post r4 s3)))) ∧ (a0 = 2 → (wp_G_isOpen a1 (((sg_i u 1) - 1) - a2) u (fun r6 s5 => ((r6 = 0 ∨ r6 = 1) ∧ post r6 s5)))) ∧ ((a0.toInt < 0 ∨ 2 < a0.toInt) → (wp_G_isOpen a2 a1 u (fun r8 s7 => ((r8 = 0 ∨ r8 = 1) ∧ post r8 s7))))
def wp_G_looksTheSame_12 (post : Int32 → zz_St → Prop) (kn2 : Int32 → Int32 → zz_St → Prop) (kn12 : Int32 → Int32 → Int32 → zz_St → Prop) (x1 : Int32) (x2 : Int32) (x3 : Int32) (u : zz_St) : Prop :=
  ((sg_i u 0) ≤ x3 → (kn2 x1 (x2 + 1) u)) ∧ (¬ (sg_i u 0) ≤ x3 → (wp_G_isOpen x3 x2 u (fun r4 s3 => (wp_G_imageIsOpen x1 x3 x2 s3 (fun r6 s5 => ((r4 = r6 → (kn12 x1 x2 (x3 + 1) s5)) ∧ (¬ r4 = r6 → (post 0 s5))))))))
def wp_G_looksTheSame_12_f (post : Int32 → zz_St → Prop) (kn2 : Int32 → Int32 → zz_St → Prop) : Nat → Int32 → Int32 → Int32 → zz_St → Prop
  | 0 => fun _ _ _ _ => False
  | n + 1 => wp_G_looksTheSame_12 post kn2 (wp_G_looksTheSame_12_f post kn2 n)
def wp_G_looksTheSame_2 (post : Int32 → zz_St → Prop) (kn2 : Int32 → Int32 → zz_St → Prop) (x1 : Int32) (x2 : Int32) (u : zz_St) : Prop :=
  ((sg_i u 1) ≤ x2 → (post 1 u)) ∧ (¬ (sg_i u 1) ≤ x2 → (∃ n : Nat, wp_G_looksTheSame_12_f post kn2 n x1 x2 0 u))
def wp_G_looksTheSame_2_f (post : Int32 → zz_St → Prop) : Nat → Int32 → Int32 → zz_St → Prop
  | 0 => fun _ _ _ => False
  | n + 1 => wp_G_looksTheSame_2 post (wp_G_looksTheSame_2_f post n)
def wp_G_looksTheSame (a0 : Int32) (u : zz_St) (post : Int32 → zz_St → Prop) : Prop :=
  ∃ n : Nat, wp_G_looksTheSame_2_f post  n a0 0 u
def wp_G_join_90 (post : Int32 → zz_St → Prop) (kn60 : Int32 → Int32 → Int32 → zz_St → Prop) (x5 : Int32) (x6 : Int32) (x7 : Int32) (u : zz_St) : Prop :=
  kn60 x5 x6 (x7 + 1) u
def wp_G_join_60 (post : Int32 → zz_St → Prop) (kn60 : Int32 → Int32 → Int32 → zz_St → Prop) (x5 : Int32) (x6 : Int32) (x7 : Int32) (u : zz_St) : Prop :=
  ((sg_i u 2) ≤ x7 → (post 1 u)) ∧ (¬ (sg_i u 2) ≤ x7 → (vp_in x7 36 ∧ (((sg_a u 8 x7.toNatClampNeg) = x6 → ((vp_in x7 36 ∧ (wp_G_join_90 post kn60 x5 x6 x7 (ss_a u 8 (upd (sg_a u 8) x7.toNatClampNeg x5)))))) ∧ (¬ (sg_a u 8 x7.toNatClampNeg) = x6 → (wp_G_join_90 post kn60 x5 x6 x7 u)))))
def wp_G_join_60_f (post : Int32 → zz_St → Prop) : Nat → Int32 → Int32 → Int32 → zz_St → Prop
  | 0 => fun _ _ _ _ => False
  | n + 1 => wp_G_join_60 post (wp_G_join_60_f post n)
def wp_G_join (a0 : Int32) (a1 : Int32) (a2 : Int32) (a3 : Int32) (u : zz_St) (post : Int32 → zz_St → Prop) : Prop :=
  wp_G_isOpen a0 a1 u (fun r2 s1 => ((r2 = 0 → (post 0 s1)) ∧ (¬ r2 = 0 → (wp_G_isOpen a2 a3 s1 (fun r5 s4 => ((r5 = 0 → (post 0 s4)) ∧ (¬ r5 = 0 → (wp_G_cellAt a0 a1 s4 (fun r8 s7 => (vp_in r8 36 ∧ (∀ v9 : Int32, v9 = sg_a s7 8 r8.toNatClampNeg → (wp_G_cellAt a2 a3 s7 (fun r11 s10 => (vp_in r11 36 ∧ (∀ v12 : Int32, v12 = sg_a s10 8 r11.toNatClampNeg → ((v9 = v12 → (post 0 s10)) ∧ (¬ v9 = v12 → (∃ n : Nat, wp_G_join_60_f post n v9 v12 0 s10))))))))))))))))))
def wp_G_countParts_34 (post : Int32 → zz_St → Prop) (kn4 : Int32 → Int32 → zz_St → Prop) (x2 : Int32) (y0 : Int32) (y1 : Int32) (u : zz_St) : Prop :=
  ∀ v3 : Int32, v3 = y1 + y0 → (kn4 v3 (x2 + 1) u)
def wp_G_countParts_102 (post : Int32 → zz_St → Prop) (kn44 : Int32 → Int32 → zz_St → Prop) (kn54 : Int32 → Int32 → Int32 → zz_St → Prop) (x2 : Int32) (x3 : Int32) (y0 : Int32) (y1 : Int32) (u : zz_St) : Prop :=
  ∀ v13 : Int32, v13 = y1 - y0 → (kn54 v13 x2 (x3 + 1) u)
def wp_G_countParts_81 (post : Int32 → zz_St → Prop) (kn44 : Int32 → Int32 → zz_St → Prop) (kn54 : Int32 → Int32 → Int32 → zz_St → Prop) (x2 : Int32) (x3 : Int32) (y0 : Int32) (y1 : Int32) (u : zz_St) : Prop :=
  ∀ v9 : Int32, v9 = y1 - y0 → (wp_G_join x3 x2 x3 (x2 + 1) u (fun r11 s10 => ((r11 = 0 → (wp_G_countParts_102 post kn44 kn54 x2 x3 0 v9 s10)) ∧ (¬ r11 = 0 → (wp_G_countParts_102 post kn44 kn54 x2 x3 1 v9 s10)))))
def wp_G_countParts_54 (post : Int32 → zz_St → Prop) (kn44 : Int32 → Int32 → zz_St → Prop) (kn54 : Int32 → Int32 → Int32 → zz_St → Prop) (x1 : Int32) (x2 : Int32) (x3 : Int32) (u : zz_St) : Prop :=
  ((sg_i u 0) ≤ x3 → (kn44 x1 (x2 + 1) u)) ∧ (¬ (sg_i u 0) ≤ x3 → (wp_G_join x3 x2 (x3 + 1) x2 u (fun r7 s6 => ((r7 = 0 → (wp_G_countParts_81 post kn44 kn54 x2 x3 0 x1 s6)) ∧ (¬ r7 = 0 → (wp_G_countParts_81 post kn44 kn54 x2 x3 1 x1 s6))))))
def wp_G_countParts_54_f (post : Int32 → zz_St → Prop) (kn44 : Int32 → Int32 → zz_St → Prop) : Nat → Int32 → Int32 → Int32 → zz_St → Prop
  | 0 => fun _ _ _ _ => False
  | n + 1 => wp_G_countParts_54 post kn44 (wp_G_countParts_54_f post kn44 n)
def wp_G_countParts_44 (post : Int32 → zz_St → Prop) (kn44 : Int32 → Int32 → zz_St → Prop) (x1 : Int32) (x2 : Int32) (u : zz_St) : Prop :=
  ((sg_i u 1) ≤ x2 → (post x1 u)) ∧ (¬ (sg_i u 1) ≤ x2 → (∃ n : Nat, wp_G_countParts_54_f post kn44 n x1 x2 0 u))
def wp_G_countParts_44_f (post : Int32 → zz_St → Prop) : Nat → Int32 → Int32 → zz_St → Prop
  | 0 => fun _ _ _ => False
  | n + 1 => wp_G_countParts_44 post (wp_G_countParts_44_f post n)
def wp_G_countParts_4 (post : Int32 → zz_St → Prop) (kn4 : Int32 → Int32 → zz_St → Prop) (x1 : Int32) (x2 : Int32) (u : zz_St) : Prop :=
  ((sg_i u 2) ≤ x2 → (∃ n : Nat, wp_G_countParts_44_f post  n x1 0 u)) ∧ (¬ (sg_i u 2) ≤ x2 → ((vp_in x2 36 ∧ (vp_in x2 36 ∧ (((sg_a u 0 x2.toNatClampNeg) = 0 → (wp_G_countParts_34 post kn4 x2 1 x1 (ss_a u 8 (upd (sg_a u 8) x2.toNatClampNeg x2)))) ∧ (¬ (sg_a u 0 x2.toNatClampNeg) = 0 → (wp_G_countParts_34 post kn4 x2 0 x1 (ss_a u 8 (upd (sg_a u 8) x2.toNatClampNeg x2)))))))))
def wp_G_countParts_4_f (post : Int32 → zz_St → Prop) : Nat → Int32 → Int32 → zz_St → Prop
  | 0 => fun _ _ _ => False
  | n + 1 => wp_G_countParts_4 post (wp_G_countParts_4_f post n)
def wp_G_countParts (u : zz_St) (post : Int32 → zz_St → Prop) : Prop :=
  ∃ n : Nat, wp_G_countParts_4_f post  n 0 0 u
def wp_L_lowBit (a0 : Int32) (u : zz_St) (post : Int64 → zz_St → Prop) : Prop :=
  (64 ≤ a0 → (post 0 u)) ∧ (¬ 64 ≤ a0 → (post (1 <<< (a0.toInt64 &&& 63)) u))
def wp_L_highBit (a0 : Int32) (u : zz_St) (post : Int64 → zz_St → Prop) : Prop :=
  (64 ≤ a0 → (post (1 <<< ((a0 - 64).toInt64 &&& 63)) u)) ∧ (¬ 64 ≤ a0 → (post 0 u))
def wp_L_keyOf (a0 : Int32) (a1 : Int32) (u : zz_St) (post : Int32 → zz_St → Prop) : Prop :=
  post (((a0 * 26) + a1) - 97) u
def wp_L_hasWord (a0 : Int32) (u : zz_St) (post : Int32 → zz_St → Prop) : Prop :=
  (a0 < 0 → (post 0 u)) ∧ (¬ a0 < 0 → (((sg_i u 4) ≤ a0 → (post 0 u)) ∧ (¬ (sg_i u 4) ≤ a0 → (post 1 u))))
def wp_L_letterOf (a0 : Int32) (a1 : Int32) (u : zz_St) (post : Int32 → zz_St → Prop) : Prop :=
  vp_in ((a0 * 6) + a1) 480 ∧ (post (sg_a u 13 ((a0 * 6) + a1).toNatClampNeg) u)
def wp_L_collect (a0 : Int32) (u : zz_St) (post : Int32 → zz_St → Prop) : Prop :=
  ((sg_i u 5) < 6 → ((vp_in (sg_i u 5) 6 ∧ (∀ v2 : Int32, v2 = (sg_i u 5) + 1 → (post 1 (ss_i (ss_a u 14 (upd (sg_a u 14) (sg_i u 5).toNatClampNeg a0)) 5 v2)))))) ∧ (¬ (sg_i u 5) < 6 → (post 0 u))
def wp_L_dropCollected (u : zz_St) (post : zz_St → Prop) : Prop :=
  post (ss_i u 5 0)
def wp_L_isCollected_17 (post : Int32 → zz_St → Prop) (kn17 : Int32 → Int32 → zz_St → Prop) (x1 : Int32) (x2 : Int32) (u : zz_St) : Prop :=
  ((sg_i u 5) ≤ x2 → (post 1 u)) ∧ (¬ (sg_i u 5) ≤ x2 → (wp_L_letterOf x1 x2 u (fun r4 s3 => (vp_in x2 6 ∧ ((r4 = (sg_a s3 14 x2.toNatClampNeg) → (kn17 x1 (x2 + 1) s3)) ∧ (¬ r4 = (sg_a s3 14 x2.toNatClampNeg) → (post 0 s3)))))))
def wp_L_isCollected_17_f (post : Int32 → zz_St → Prop) : Nat → Int32 → Int32 → zz_St → Prop
  | 0 => fun _ _ _ => False
  | n + 1 => wp_L_isCollected_17 post (wp_L_isCollected_17_f post n)
def wp_L_isCollected (a0 : Int32) (u : zz_St) (post : Int32 → zz_St → Prop) : Prop :=
  vp_in a0 80 ∧ (((sg_a u 9 a0.toNatClampNeg) = (sg_i u 5) → (∃ n : Nat, wp_L_isCollected_17_f post  n a0 0 u)) ∧ (¬ (sg_a u 9 a0.toNatClampNeg) = (sg_i u 5) → (post 0 u)))
def wp_L_isThere_2 (post : Int32 → zz_St → Prop) (kn2 : Int32 → zz_St → Prop) (x1 : Int32) (u : zz_St) : Prop :=
  ((sg_i u 4) ≤ x1 → (post 0 u)) ∧ (¬ (sg_i u 4) ≤ x1 → (wp_L_isCollected x1 u (fun r3 s2 => ((r3 = 0 → (kn2 (x1 + 1) s2)) ∧ (¬ r3 = 0 → (post 1 s2))))))
def wp_L_isThere_2_f (post : Int32 → zz_St → Prop) : Nat → Int32 → zz_St → Prop
  | 0 => fun _ _ => False
  | n + 1 => wp_L_isThere_2 post (wp_L_isThere_2_f post n)
def wp_L_isThere (u : zz_St) (post : Int32 → zz_St → Prop) : Prop :=
  ∃ n : Nat, wp_L_isThere_2_f post  n 0 u
def wp_L_rank_48 (post : zz_St → Prop) (x1 : Int32) (x2 : Int32) (u : zz_St) : Prop :=
  (vp_in x2 80 ∧ (post (ss_a u 11 (upd (sg_a u 11) x2.toNatClampNeg x1))))
def wp_L_rank_2 (post : zz_St → Prop) (kn2 : Int32 → Int32 → zz_St → Prop) (x1 : Int32) (x2 : Int32) (u : zz_St) : Prop :=
  (x2 ≤ 0 → (wp_L_rank_48 post  x1 x2 u)) ∧ (¬ x2 ≤ 0 → (vp_in (x2 - 1) 80 ∧ (vp_in (sg_a u 11 (x2 - 1).toNatClampNeg) 80 ∧ (vp_in x1 80 ∧ (((sg_a u 10 x1.toNatClampNeg) ≤ (sg_a u 10 (sg_a u 11 (x2 - 1).toNatClampNeg).toNatClampNeg) → (wp_L_rank_48 post  x1 x2 u)) ∧ (¬ (sg_a u 10 x1.toNatClampNeg) ≤ (sg_a u 10 (sg_a u 11 (x2 - 1).toNatClampNeg).toNatClampNeg) → (vp_in (x2 - 1) 80 ∧ (∀ v3 : Int32, v3 = sg_a u 11 (x2 - 1).toNatClampNeg → (vp_in x2 80 ∧ (kn2 x1 (x2 + (-1)) (ss_a u 11 (upd (sg_a u 11) x2.toNatClampNeg v3))))))))))))
def wp_L_rank_2_f (post : zz_St → Prop) : Nat → Int32 → Int32 → zz_St → Prop
  | 0 => fun _ _ _ => False
  | n + 1 => wp_L_rank_2 post (wp_L_rank_2_f post n)
def wp_L_rank (a0 : Int32) (u : zz_St) (post : zz_St → Prop) : Prop :=
  ∃ n : Nat, wp_L_rank_2_f post  n a0 a0 u
def wp_L_sortIntoSets_94 (post : zz_St → Prop) (kn34 : Int32 → zz_St → Prop) (kn94 : Int32 → Int32 → Int32 → zz_St → Prop) (x1 : Int32) (x2 : Int32) (x3 : Int32) (u : zz_St) : Prop :=
  vp_in x2 80 ∧ (((sg_a u 9 x2.toNatClampNeg) ≤ x3 → (kn34 (x1 + 1) u)) ∧ (¬ (sg_a u 9 x2.toNatClampNeg) ≤ x3 → (wp_L_letterOf x2 x3 u (fun r15 s14 => (wp_L_keyOf x3 r15 s14 (fun r17 s16 => (vp_in r17 156 ∧ (wp_L_lowBit x1 s16 (fun r19 s18 => (∀ v20 : Int64, v20 = (sg_b s16 2 r17.toNatClampNeg) ||| r19 → (vp_in r17 156 ∧ (vp_in r17 156 ∧ (wp_L_highBit x1 (ss_b s18 2 (vp_updL (sg_b s18 2) r17.toNatClampNeg v20)) (fun r22 s21 => (∀ v23 : Int64, v23 = (sg_b s18 3 r17.toNatClampNeg) ||| r22 → (vp_in r17 156 ∧ (kn94 x1 x2 (x3 + 1) (ss_b s21 3 (vp_updL (sg_b s21 3) r17.toNatClampNeg v23)))))))))))))))))))
def wp_L_sortIntoSets_94_f (post : zz_St → Prop) (kn34 : Int32 → zz_St → Prop) : Nat → Int32 → Int32 → Int32 → zz_St → Prop
  | 0 => fun _ _ _ _ => False
  | n + 1 => wp_L_sortIntoSets_94 post kn34 (wp_L_sortIntoSets_94_f post kn34 n)
def wp_L_sortIntoSets_34 (post : zz_St → Prop) (kn34 : Int32 → zz_St → Prop) (x1 : Int32) (u : zz_St) : Prop :=
  ((sg_i u 4) ≤ x1 → (post u)) ∧ (¬ (sg_i u 4) ≤ x1 → (vp_in x1 80 ∧ (∀ v6 : Int32, v6 = sg_a u 11 x1.toNatClampNeg → ((vp_in v6 80 ∧ (vp_in v6 80 ∧ (vp_in (sg_a u 9 v6.toNatClampNeg) 7 ∧ (wp_L_lowBit x1 (ss_a u 12 (upd (sg_a u 12) v6.toNatClampNeg x1)) (fun r8 s7 => (∀ v9 : Int64, v9 = (sg_b u 0 (sg_a u 9 v6.toNatClampNeg).toNatClampNeg) ||| r8 → (vp_in (sg_a u 9 v6.toNatClampNeg) 7 ∧ (vp_in v6 80 ∧ (vp_in (sg_a s7 9 v6.toNatClampNeg) 7 ∧ (wp_L_highBit x1 (ss_b s7 0 (vp_updL (sg_b s7 0) (sg_a u 9 v6.toNatClampNeg).toNatClampNeg v9)) (fun r11 s10 => (∀ v12 : Int64, v12 = (sg_b s7 1 (sg_a s7 9 v6.toNatClampNeg).toNatClampNeg) ||| r11 → (vp_in (sg_a s7 9 v6.toNatClampNeg) 7 ∧ (∃ n : Nat, wp_L_sortIntoSets_94_f post kn34 n x1 v6 0 (ss_b s10 1 (vp_updL (sg_b s10 1) (sg_a s7 9 v6.toNatClampNeg).toNatClampNeg v12))))))))))))))))))))
def wp_L_sortIntoSets_34_f (post : zz_St → Prop) : Nat → Int32 → zz_St → Prop
  | 0 => fun _ _ => False
  | n + 1 => wp_L_sortIntoSets_34 post (wp_L_sortIntoSets_34_f post n)
def wp_L_sortIntoSets (u : zz_St) (post : zz_St → Prop) : Prop :=
  wp_JA_fillJ_LlowOfLength 0 u (fun s1 => (wp_JA_fillJ_LhighOfLength 0 s1 (fun s2 => (wp_JA_fillJ_LlowOfKey 0 s2 (fun s3 => (wp_JA_fillJ_LhighOfKey 0 s3 (fun s4 => (∃ n : Nat, wp_L_sortIntoSets_34_f post n 0 s4))))))))
def wp_L_wordFromCollected (a0 : Int32) (u : zz_St) (post : Int32 → zz_St → Prop) : Prop :=
  ((sg_i u 5) < 2 → (post (-1) u)) ∧ (¬ (sg_i u 5) < 2 → ((a0 < 0 → (post (-1) u)) ∧ (¬ a0 < 0 → ((1000 < a0 → (post (-1) u)) ∧ (¬ 1000 < a0 → ((80 ≤ (sg_i u 4) → (post (-1) u)) ∧ (¬ 80 ≤ (sg_i u 4) → (wp_L_isThere u (fun r6 s5 => ((r6 = 0 → (∀ v8 : Int32, v8 = sg_i s5 4 → (∀ v9 : Int32, v9 = sg_i s5 5 → (vp_in v8 80 ∧ ((vp_in v8 80 ∧ ((¬ (0 : Int32) < 0) ∧ (¬ (v8 * 6) < 0) ∧ (¬ (sg_i s5 5) < 0) ∧ (0 : Int32).toNatClampNeg + (sg_i s5 5).toNatClampNeg ≤ 6 ∧ (v8 * 6).toNatClampNeg + (sg_i s5 5).toNatClampNeg ≤ 480 ∧ (wp_L_rank v8 (ss_a (ss_a (ss_a s5 9 (upd (sg_a s5 9) v8.toNatClampNeg v9)) 10 (upd (sg_a s5 10) v8.toNatClampNeg a0)) 13 (va_cpy (sg_a s5 14) (sg_a s5 13) (0 : Int32).toNatClampNeg (v8 * 6).toNatClampNeg (sg_i s5 5).toNatClampNeg)) (fun s10 => (∀ v11 : Int32, v11 = (sg_i s10 4) + 1 → (wp_L_sortIntoSets (ss_i s10 4 v11) (fun s12 => (post v8 s12))))))))))))) ∧ (¬ r6 = 0 → (post (-1) s5))))))))))))
def wp_F_forget (u : zz_St) (post : zz_St → Prop) : Prop :=
  post (ss_i u 6 (-1))
def wp_F_keep (a1 : Int32) (u : zz_St) (post : zz_St → Prop) : Prop :=
  (¬ (0 : Int32) < 0) ∧ (¬ (0 : Int32) < 0) ∧ (¬ (sg_i u 3) < 0) ∧ (0 : Int32).toNatClampNeg + (sg_i u 3).toNatClampNeg ≤ 24 ∧ (0 : Int32).toNatClampNeg + (sg_i u 3).toNatClampNeg ≤ 24 ∧ (post (ss_i (ss_a u 15 (va_cpy (sg_a u 16) (sg_a u 15) (0 : Int32).toNatClampNeg (0 : Int32).toNatClampNeg (sg_i u 3).toNatClampNeg)) 6 a1))
def wp_F_wordOf (a0 : Int32) (u : zz_St) (post : Int32 → zz_St → Prop) : Prop :=
  ((sg_i u 6) = (-1) → (post (-1) u)) ∧ (¬ (sg_i u 6) = (-1) → (vp_in a0 24 ∧ (post (sg_a u 15 a0.toNatClampNeg) u)))
def wp_F_letterBy (a0 : Int32) (a1 : Int32) (u : zz_St) (post : Int32 → zz_St → Prop) : Prop :=
  wp_G_slotAt a0 a1 u (fun r2 s1 => (((sg_i s1 6) = (-1) → (post 0 s1)) ∧ (¬ (sg_i s1 6) = (-1) → ((r2 = (-1) → (post 0 s1)) ∧ (¬ r2 = (-1) → (vp_in r2 24 ∧ (wp_G_placeAt a0 a1 s1 (fun r6 s5 => (wp_L_letterOf (sg_a s1 15 r2.toNatClampNeg) r6 s5 (fun r8 s7 => (post r8 s7)))))))))))
def wp_F_letterAt (a0 : Int32) (u : zz_St) (post : Int32 → zz_St → Prop) : Prop :=
  wp_F_letterBy a0 0 u (fun r2 s1 => ((r2 = 0 → (wp_F_letterBy a0 1 s1 (fun r5 s4 => (post r5 s4)))) ∧ (¬ r2 = 0 → (post r2 s1))))
def wp_F_agrees_9 (post : Int32 → zz_St → Prop) (u : zz_St) : Prop :=
  post 1 u
def wp_F_agrees (a0 : Int32) (a1 : Int32) (u : zz_St) (post : Int32 → zz_St → Prop) : Prop :=
  (a0 = 0 → (wp_F_agrees_9 post  u)) ∧ (¬ a0 = 0 → ((a0 = a1 → (wp_F_agrees_9 post  u)) ∧ (¬ a0 = a1 → (post 0 u))))
def wp_F_holds_47 (post : Int32 → zz_St → Prop) (kn47 : Int32 → Int32 → Int32 → zz_St → Prop) (x1 : Int32) (x2 : Int32) (x3 : Int32) (u : zz_St) : Prop :=
  vp_in x1 24 ∧ (((sg_a u 3 x1.toNatClampNeg) ≤ x3 → (post 1 u)) ∧ (¬ (sg_a u 3 x1.toNatClampNeg) ≤ x3 → (wp_G_cellOf x1 x3 u (fun r6 s5 => (vp_in x1 24 ∧ (wp_L_letterOf (sg_a s5 15 x1.toNatClampNeg) x3 s5 (fun r8 s7 => (vp_in r6 36 ∧ (wp_F_agrees (sg_a s7 1 r6.toNatClampNeg) r8 s7 (fun r10 s9 => ((r10 = 0 → (post 0 s9)) ∧ (¬ r10 = 0 → (wp_F_letterBy r6 x2 s9 (fun r13 s12 => (wp_F_agrees r13 r8 s12 (fun r15 s14 => ((r15 = 0 → (post 0 s14)) ∧ (¬ r15 = 0 → (kn47 x1 x2 (x3 + 1) s14)))))))))))))))))))
def wp_F_holds_47_f (post : Int32 → zz_St → Prop) : Nat → Int32 → Int32 → Int32 → zz_St → Prop
  | 0 => fun _ _ _ _ => False
  | n + 1 => wp_F_holds_47 post (wp_F_holds_47_f post n)
def wp_F_holds_33 (post : Int32 → zz_St → Prop) (x1 : Int32) (u : zz_St) : Prop :=
  vp_in x1 24 ∧ (∀ v3 : Int32, v3 = 1 - (sg_a u 4 x1.toNatClampNeg) → (∃ n : Nat, wp_F_holds_47_f post  n x1 v3 0 u))
def wp_F_holds (a0 : Int32) (u : zz_St) (post : Int32 → zz_St → Prop) : Prop :=
  vp_in a0 24 ∧ (((sg_a u 5 a0.toNatClampNeg) = (-1) → (wp_F_holds_33 post  a0 u)) ∧ (¬ (sg_a u 5 a0.toNatClampNeg) = (-1) → (vp_in a0 24 ∧ (vp_in a0 24 ∧ (((sg_a u 5 a0.toNatClampNeg) = (sg_a u 15 a0.toNatClampNeg) → (wp_F_holds_33 post  a0 u)) ∧ (¬ (sg_a u 5 a0.toNatClampNeg) = (sg_a u 15 a0.toNatClampNeg) → (post 0 u)))))))
def wp_F_firstFault_12 (post : Int32 → zz_St → Prop) (kn12 : Int32 → zz_St → Prop) (x1 : Int32) (u : zz_St) : Prop :=
  ((sg_i u 3) ≤ x1 → (post 0 u)) ∧ (¬ (sg_i u 3) ≤ x1 → (wp_F_holds x1 u (fun r4 s3 => ((r4 = 0 → (post (1 + x1) s3)) ∧ (¬ r4 = 0 → (kn12 (x1 + 1) s3))))))
def wp_F_firstFault_12_f (post : Int32 → zz_St → Prop) : Nat → Int32 → zz_St → Prop
  | 0 => fun _ _ => False
  | n + 1 => wp_F_firstFault_12 post (wp_F_firstFault_12_f post n)
def wp_F_firstFault (u : zz_St) (post : Int32 → zz_St → Prop) : Prop :=
  ((sg_i u 6) = (-1) → (post (-1) u)) ∧ (¬ (sg_i u 6) = (-1) → (∃ n : Nat, wp_F_firstFault_12_f post  n 0 u))
def wp_S_narrow (a0 : Int32) (a1 : Int32) (u : zz_St) (post : zz_St → Prop) : Prop :=
  vp_in a0 600 ∧ (vp_in a1 156 ∧ (∀ v1 : Int64, v1 = (sg_b u 4 a0.toNatClampNeg) &&& (sg_b u 2 a1.toNatClampNeg) → (vp_in a0 600 ∧ (vp_in a0 600 ∧ (vp_in a1 156 ∧ (∀ v2 : Int64, v2 = (sg_b u 5 a0.toNatClampNeg) &&& (sg_b u 3 a1.toNatClampNeg) → (vp_in a0 600 ∧ (post (ss_b (ss_b u 4 (vp_updL (sg_b u 4) a0.toNatClampNeg v1)) 5 (vp_updL (sg_b u 5) a0.toNatClampNeg v2))))))))))
def wp_S_openSlot_82 (post : zz_St → Prop) (kn42 : Int32 → Int32 → Int32 → zz_St → Prop) (x1 : Int32) (x2 : Int32) (x3 : Int32) (u : zz_St) : Prop :=
  kn42 x1 x2 (x3 + 1) u
def wp_S_openSlot_42 (post : zz_St → Prop) (kn42 : Int32 → Int32 → Int32 → zz_St → Prop) (x1 : Int32) (x2 : Int32) (x3 : Int32) (u : zz_St) : Prop :=
  (x2 ≤ x3 → (vp_in x1 24 ∧ (∀ v5 : Int32, v5 = sg_a u 5 x1.toNatClampNeg → ((v5 = (-1) → (post u)) ∧ (¬ v5 = (-1) → (vp_in x1 600 ∧ (vp_in v5 80 ∧ (wp_L_lowBit (sg_a u 12 v5.toNatClampNeg) u (fun r8 s7 => (∀ v9 : Int64, v9 = (sg_b u 4 x1.toNatClampNeg) &&& r8 → (vp_in x1 600 ∧ (vp_in x1 600 ∧ (vp_in v5 80 ∧ (wp_L_highBit (sg_a s7 12 v5.toNatClampNeg) (ss_b s7 4 (vp_updL (sg_b s7 4) x1.toNatClampNeg v9)) (fun r11 s10 => (∀ v12 : Int64, v12 = (sg_b s7 5 x1.toNatClampNeg) &&& r11 → (vp_in x1 600 ∧ (post (ss_b s10 5 (vp_updL (sg_b s10 5) x1.toNatClampNeg v12)))))))))))))))))))) ∧ (¬ x2 ≤ x3 → (wp_G_cellOf x1 x3 u (fun r14 s13 => (vp_in r14 36 ∧ (∀ v15 : Int32, v15 = sg_a s13 1 r14.toNatClampNeg → ((v15 = 0 → (wp_S_openSlot_82 post kn42 x1 x2 x3 s13)) ∧ (¬ v15 = 0 → (wp_L_keyOf x3 v15 s13 (fun r18 s17 => (wp_S_narrow x1 r18 s17 (fun s19 => (wp_S_openSlot_82 post kn42 x1 x2 x3 s19))))))))))))
def wp_S_openSlot_42_f (post : zz_St → Prop) : Nat → Int32 → Int32 → Int32 → zz_St → Prop
  | 0 => fun _ _ _ _ => False
  | n + 1 => wp_S_openSlot_42 post (wp_S_openSlot_42_f post n)
def wp_S_openSlot (a0 : Int32) (u : zz_St) (post : zz_St → Prop) : Prop :=
  vp_in a0 24 ∧ (∀ v1 : Int32, v1 = sg_a u 3 a0.toNatClampNeg → (vp_in v1 7 ∧ (∀ v2 : Int64, v2 = sg_b u 0 v1.toNatClampNeg → (vp_in a0 600 ∧ (vp_in v1 7 ∧ (∀ v3 : Int64, v3 = sg_b u 1 v1.toNatClampNeg → (vp_in a0 600 ∧ (∃ n : Nat, wp_S_openSlot_42_f post  n a0 v1 0 (ss_b (ss_b u 4 (vp_updL (sg_b u 4) a0.toNatClampNeg v2)) 5 (vp_updL (sg_b u 5) a0.toNatClampNeg v3))))))))))
def wp_S_countAtStart (a0 : Int32) (u : zz_St) (post : Int32 → zz_St → Prop) : Prop :=
  wp_S_openSlot a0 u (fun s1 => (vp_in a0 600 ∧ (wp_JL_bitCount (sg_b s1 4 a0.toNatClampNeg) s1 (fun r3 s2 => (vp_in a0 600 ∧ (wp_JL_bitCount (sg_b s2 5 a0.toNatClampNeg) s2 (fun r5 s4 => (post (r3 + r5) s4))))))))
def wp_S_clearSlots_12 (post : zz_St → Prop) (kn12 : Int32 → zz_St → Prop) (x1 : Int32) (u : zz_St) : Prop :=
  ((sg_i u 3) ≤ x1 → (post u)) ∧ (¬ (sg_i u 3) ≤ x1 → ((vp_in x1 24 ∧ (wp_S_openSlot x1 (ss_a u 16 (upd (sg_a u 16) x1.toNatClampNeg (-1))) (fun s2 => (kn12 (x1 + 1) s2))))))
def wp_S_clearSlots_12_f (post : zz_St → Prop) : Nat → Int32 → zz_St → Prop
  | 0 => fun _ _ => False
  | n + 1 => wp_S_clearSlots_12 post (wp_S_clearSlots_12_f post n)
def wp_S_clearSlots (u : zz_St) (post : zz_St → Prop) : Prop :=
  ∃ n : Nat, wp_S_clearSlots_12_f post  n 0 (ss_l (ss_l u 0 0) 1 0)
def wp_S_lowestBit (a0 : Int64) (u : zz_St) (post : Int32 → zz_St → Prop) : Prop :=
  wp_JL_bitCount ((a0 &&& (-a0)) - 1) u (fun r2 s1 => (post r2 s1))
def wp_S_takeFilling (u : zz_St) (post : Int32 → zz_St → Prop) : Prop :=
  ∀ v1 : Int32, v1 = (sg_i u 12) + 1 → (((sg_i u 7) ≤ (sg_i u 6) → (((sg_i u 9) = 0 ∨ (sg_i u 9) = 1) ∧ post (sg_i u 9) (ss_i u 12 v1))) ∧ (¬ (sg_i u 7) ≤ (sg_i u 6) → (wp_F_keep (sg_i u 7) (ss_i u 12 v1) (fun s3 => (((sg_i s3 9) = 0 ∨ (sg_i s3 9) = 1) ∧ post (sg_i s3 9) s3)))))
def wp_S_slotWithFewest_100 (post : Int32 → zz_St → Prop) (kn14 : Int32 → Int32 → Int32 → Int32 → zz_St → Prop) (x2 : Int32) (x3 : Int32) (x4 : Int32) (x5 : Int32) (u : zz_St) : Prop :=
  kn14 x2 x3 x4 (x5 + 1) u
def wp_S_slotWithFewest_14 (post : Int32 → zz_St → Prop) (kn14 : Int32 → Int32 → Int32 → Int32 → zz_St → Prop) (x2 : Int32) (x3 : Int32) (x4 : Int32) (x5 : Int32) (u : zz_St) : Prop :=
  ((sg_i u 3) ≤ x5 → (post x3 u)) ∧ (¬ (sg_i u 3) ≤ x5 → ((x2 ≤ 0 → (post x3 u)) ∧ (¬ x2 ≤ 0 → (vp_in x5 24 ∧ (((sg_a u 16 x5.toNatClampNeg) = (-1) → (vp_in (x4 + x5) 600 ∧ (wp_JL_bitCount ((sg_b u 4 (x4 + x5).toNatClampNeg) &&& ((sg_l u 0) ^^^ (-1))) u (fun r6 s5 => (vp_in (x4 + x5) 600 ∧ (wp_JL_bitCount ((sg_b s5 5 (x4 + x5).toNatClampNeg) &&& ((sg_l s5 1) ^^^ (-1))) s5 (fun r8 s7 => (∀ v9 : Int32, v9 = r6 + r8 → ((x2 ≤ v9 → (wp_S_slotWithFewest_100 post kn14 x2 x3 x4 x5 s7)) ∧ (¬ x2 ≤ v9 → (wp_S_slotWithFewest_100 post kn14 v9 x5 x4 x5 s7))))))))))) ∧ (¬ (sg_a u 16 x5.toNatClampNeg) = (-1) → (wp_S_slotWithFewest_100 post kn14 x2 x3 x4 x5 u)))))))
def wp_S_slotWithFewest_14_f (post : Int32 → zz_St → Prop) : Nat → Int32 → Int32 → Int32 → Int32 → zz_St → Prop
  | 0 => fun _ _ _ _ _ => False
  | n + 1 => wp_S_slotWithFewest_14 post (wp_S_slotWithFewest_14_f post n)
def wp_S_slotWithFewest (a0 : Int32) (u : zz_St) (post : Int32 → zz_St → Prop) : Prop :=
  ∀ v1 : Int32, v1 = a0 * 24 → (∃ n : Nat, wp_S_slotWithFewest_14_f post  n 81 (-1) v1 0 u)
def wp_S_narrowCrossing_155 (post : zz_St → Prop) (kn73 : Int32 → Int32 → Int32 → Int32 → Int32 → zz_St → Prop) (x2 : Int32) (x3 : Int32) (x5 : Int32) (x6 : Int32) (x7 : Int32) (u : zz_St) : Prop :=
  kn73 x2 x3 x5 x6 (x7 + 1) u
def wp_S_narrowCrossing_73 (post : zz_St → Prop) (kn73 : Int32 → Int32 → Int32 → Int32 → Int32 → zz_St → Prop) (x2 : Int32) (x3 : Int32) (x5 : Int32) (x6 : Int32) (x7 : Int32) (u : zz_St) : Prop :=
  vp_in x2 24 ∧ (((sg_a u 3 x2.toNatClampNeg) ≤ x7 → (post u)) ∧ (¬ (sg_a u 3 x2.toNatClampNeg) ≤ x7 → (wp_G_cellOf x2 x7 u (fun r6 s5 => (wp_G_slotAt r6 x6 s5 (fun r8 s7 => ((r8 = (-1) → (wp_S_narrowCrossing_155 post kn73 x2 x3 x5 x6 x7 s7)) ∧ (¬ r8 = (-1) → (wp_G_placeAt r6 x6 s7 (fun r11 s10 => (wp_L_letterOf x3 x7 s10 (fun r13 s12 => (wp_L_keyOf r11 r13 s12 (fun r15 s14 => (wp_S_narrow (x5 + r8) r15 s14 (fun s16 => (wp_S_narrowCrossing_155 post kn73 x2 x3 x5 x6 x7 s16)))))))))))))))))
def wp_S_narrowCrossing_73_f (post : zz_St → Prop) : Nat → Int32 → Int32 → Int32 → Int32 → Int32 → zz_St → Prop
  | 0 => fun _ _ _ _ _ _ => False
  | n + 1 => wp_S_narrowCrossing_73 post (wp_S_narrowCrossing_73_f post n)
def wp_S_narrowCrossing (a0 : Int32) (a1 : Int32) (a2 : Int32) (u : zz_St) (post : zz_St → Prop) : Prop :=
  ∀ v1 : Int32, v1 = a0 * 24 → (∀ v2 : Int32, v2 = v1 + 24 → ((¬ v1 < 0) ∧ (¬ v2 < 0) ∧ (¬ (sg_i u 3) < 0) ∧ v1.toNatClampNeg + (sg_i u 3).toNatClampNeg ≤ 600 ∧ v2.toNatClampNeg + (sg_i u 3).toNatClampNeg ≤ 600 ∧ ((¬ v1 < 0) ∧ (¬ v2 < 0) ∧ (¬ (sg_i u 3) < 0) ∧ v1.toNatClampNeg + (sg_i u 3).toNatClampNeg ≤ 600 ∧ v2.toNatClampNeg + (sg_i u 3).toNatClampNeg ≤ 600 ∧ (vp_in a1 24 ∧ (∀ v3 : Int32, v3 = 1 - (sg_a u 4 a1.toNatClampNeg) → (∃ n : Nat, wp_S_narrowCrossing_73_f post  n a1 a2 v2 v3 0 (ss_b (ss_b u 4 (va_cpy (sg_b u 4) (sg_b u 4) v1.toNatClampNeg v2.toNatClampNeg (sg_i u 3).toNatClampNeg)) 5 (va_cpy (sg_b u 5) (sg_b u 5) v1.toNatClampNeg v2.toNatClampNeg (sg_i u 3).toNatClampNeg))))))))
def wp_X_black (a0 : Int32) (a1 : Int32) (a2 : Int32) (u : zz_St) (post : Int32 → zz_St → Prop) : Prop :=
  wp_G_cellAt a0 a1 u (fun r2 s1 => ((r2 = (-1) → (post 0 s1)) ∧ (¬ r2 = (-1) → (vp_in r2 36 ∧ (((sg_a s1 0 r2.toNatClampNeg) = a2 → (post 0 s1)) ∧ (¬ (sg_a s1 0 r2.toNatClampNeg) = a2 → (wp_G_paint r2 a2 s1 (fun s5 => (wp_F_forget s5 (fun s6 => (post 1 s6)))))))))))
def wp_X_isLetter (a0 : Int32) (u : zz_St) (post : Int32 → zz_St → Prop) : Prop :=
  (a0 < 97 → (post 0 u)) ∧ (¬ a0 < 97 → ((122 < a0 → (post 0 u)) ∧ (¬ 122 < a0 → (post 1 u))))
def wp_X_unit (a0 : Int32) (u : zz_St) (post : Int32 → zz_St → Prop) : Prop :=
  wp_X_isLetter a0 u (fun r2 s1 => ((r2 = 0 → (post 0 s1)) ∧ (¬ r2 = 0 → (wp_L_collect a0 s1 (fun r5 s4 => ((r5 = 0 → (post 0 s4)) ∧ (¬ r5 = 0 → (post 1 s4))))))))
def wp_X_word (a0 : Int32) (u : zz_St) (post : Int32 → zz_St → Prop) : Prop :=
  wp_L_wordFromCollected a0 u (fun r2 s1 => (wp_L_dropCollected s1 (fun s3 => (post r2 s3))))
def wp_X_given_43 (post : Int32 → zz_St → Prop) (x3 : Int32) (x4 : Int32) (u : zz_St) : Prop :=
  (vp_in x4 36 ∧ (post 1 (ss_a u 1 (upd (sg_a u 1) x4.toNatClampNeg x3))))
def wp_X_given (a0 : Int32) (a1 : Int32) (a2 : Int32) (u : zz_St) (post : Int32 → zz_St → Prop) : Prop :=
  wp_G_cellAt a0 a1 u (fun r2 s1 => ((r2 = (-1) → (post 0 s1)) ∧ (¬ r2 = (-1) → (vp_in r2 36 ∧ (((sg_a s1 0 r2.toNatClampNeg) = 0 → ((a2 = 0 → (wp_X_given_43 post a2 r2 s1)) ∧ (¬ a2 = 0 → (wp_X_isLetter a2 s1 (fun r7 s6 => ((r7 = 0 → (post 0 s6)) ∧ (¬ r7 = 0 → (wp_X_given_43 post a2 r2 s6)))))))) ∧ (¬ (sg_a s1 0 r2.toNatClampNeg) = 0 → (post 0 s1)))))))
def wp_X_theme_52 (post : Int32 → zz_St → Prop) (x1 : Int32) (x2 : Int32) (u : zz_St) : Prop :=
  (vp_in x1 24 ∧ (post 1 (ss_a u 5 (upd (sg_a u 5) x1.toNatClampNeg x2))))
def wp_X_theme (a0 : Int32) (a1 : Int32) (u : zz_St) (post : Int32 → zz_St → Prop) : Prop :=
  wp_G_hasSlot a0 u (fun r2 s1 => ((r2 = 0 → (post 0 s1)) ∧ (¬ r2 = 0 → ((a1 = (-1) → (wp_X_theme_52 post a0 a1 s1)) ∧ (¬ a1 = (-1) → (wp_L_hasWord a1 s1 (fun r6 s5 => ((r6 = 0 → (post 0 s5)) ∧ (¬ r6 = 0 → (vp_in a1 80 ∧ (vp_in a0 24 ∧ (((sg_a s5 9 a1.toNatClampNeg) = (sg_a s5 3 a0.toNatClampNeg) → (wp_X_theme_52 post a0 a1 s5)) ∧ (¬ (sg_a s5 9 a1.toNatClampNeg) = (sg_a s5 3 a0.toNatClampNeg) → (post 0 s5))))))))))))))
def wp_X_slots (u : zz_St) (post : Int32 → zz_St → Prop) : Prop :=
  post (sg_i u 3) u
def wp_X_slot (a0 : Int32) (a1 : Int32) (u : zz_St) (post : Int32 → zz_St → Prop) : Prop :=
  wp_G_hasSlot a0 u (fun r2 s1 => ((r2 = 0 → (post (-1) s1)) ∧ (¬ r2 = 0 → ((a1 = 0 → (vp_in a0 24 ∧ (post (sg_a s1 2 a0.toNatClampNeg) s1))) ∧ (a1 = 1 → (vp_in a0 24 ∧ (post (sg_a s1 3 a0.toNatClampNeg) s1))) ∧ (a1 = 2 → (vp_in a0 24 ∧ (post (sg_a s1 4 a0.toNatClampNeg) s1))) ∧ (a1 = 3 → (vp_in a0 24 ∧ (post (sg_a s1 5 a0.toNatClampNeg) s1))) ∧ (a1 = 4 → (wp_S_countAtStart a0 s1 (fun r5 s4 => (post r5 s4)))) ∧ (a1 = 5 → (wp_F_wordOf a0 s1 (fun r7 s6 => (post r7 s6)))) ∧ ((a1.toInt < 0 ∨ 5 < a1.toInt) → (post (-1) s1))))))
def wp_X_steps (u : zz_St) (post : Int32 → zz_St → Prop) : Prop :=
  post (sg_i u 11) u
def wp_X_many (u : zz_St) (post : Int32 → zz_St → Prop) : Prop :=
  post (sg_i u 12) u
def wp_X_score (u : zz_St) (post : Int32 → zz_St → Prop) : Prop :=
  post (sg_i u 6) u
def wp_X_letter (a0 : Int32) (a1 : Int32) (u : zz_St) (post : Int32 → zz_St → Prop) : Prop :=
  wp_G_cellAt a0 a1 u (fun r2 s1 => ((r2 = (-1) → (post (-1) s1)) ∧ (¬ r2 = (-1) → (wp_F_letterAt r2 s1 (fun r5 s4 => (post r5 s4))))))
def wp_X_check (u : zz_St) (post : Int32 → zz_St → Prop) : Prop :=
  wp_F_firstFault u (fun r2 s1 => (post r2 s1))
def wp_X_alike_33 (post : Int32 → zz_St → Prop) (x1 : Int32) (u : zz_St) : Prop :=
  wp_G_looksTheSame x1 u (fun r6 s5 => ((r6 = 0 ∨ r6 = 1) ∧ post r6 s5))
def wp_X_alike (a0 : Int32) (u : zz_St) (post : Int32 → zz_St → Prop) : Prop :=
  (a0 < 0 → (post 0 u)) ∧ (¬ a0 < 0 → ((3 < a0 → (post 0 u)) ∧ (¬ 3 < a0 → ((a0 = 3 → (((sg_i u 0) = (sg_i u 1) → (wp_X_alike_33 post  a0 u)) ∧ (¬ (sg_i u 0) = (sg_i u 1) → (post 0 u)))) ∧ (¬ a0 = 3 → (wp_X_alike_33 post  a0 u))))))
def wp_X_parts (u : zz_St) (post : Int32 → zz_St → Prop) : Prop :=
  wp_G_countParts u (fun r2 s1 => (post r2 s1))
def wp_X_isStepLimit (a0 : Int32) (u : zz_St) (post : Int32 → zz_St → Prop) : Prop :=
  (a0 < 0 → (post 0 u)) ∧ (¬ a0 < 0 → ((20000 < a0 → (post 0 u)) ∧ (¬ 20000 < a0 → (post 1 u))))
def wp_S_tryWord (WF : Int32 → zz_St → (Int32 → zz_St → Prop) → Prop) (a0 : Int32) (a1 : Int32) (a2 : Int32) (u : zz_St) (post : Int32 → zz_St → Prop) : Prop :=
  ((sg_i u 11) < (sg_i u 8) → (∀ v2 : Int32, v2 = (sg_i u 11) + 1 → (vp_in a2 80 ∧ (∀ v3 : Int32, v3 = sg_a u 11 a2.toNatClampNeg → ((vp_in a1 24 ∧ (wp_L_lowBit a2 (ss_a (ss_i u 11 v2) 16 (upd (sg_a u 16) a1.toNatClampNeg v3)) (fun r5 s4 => (∀ v6 : Int64, v6 = (sg_l u 0) ||| r5 → (wp_L_highBit a2 (ss_l s4 0 v6) (fun r8 s7 => (∀ v9 : Int64, v9 = (sg_l s4 1) ||| r8 → (vp_in v3 80 ∧ (∀ v10 : Int32, v10 = (sg_i s7 7) + (sg_a s7 10 v3.toNatClampNeg) → (wp_S_narrowCrossing a0 a1 v3 (ss_i (ss_l s7 1 v9) 7 v10) (fun s11 => (WF (a0 + 1) s11 (fun r13 s12 => (vp_in v3 80 ∧ (∀ v14 : Int32, v14 = (sg_i s12 7) - (sg_a s12 10 v3.toNatClampNeg) → (wp_L_lowBit a2 (ss_i s12 7 v14) (fun r16 s15 => (∀ v17 : Int64, v17 = (sg_l s12 0) &&& (r16 ^^^ (-1)) → (wp_L_highBit a2 (ss_l s15 0 v17) (fun r19 s18 => (∀ v20 : Int64, v20 = (sg_l s15 1) &&& (r19 ^^^ (-1)) → ((vp_in a1 24 ∧ ((r13 = 0 ∨ r13 = 1) ∧ post r13 (ss_a (ss_l s18 1 v20) 16 (upd (sg_a s18 16) a1.toNatClampNeg (-1)))))))))))))))))))))))))))))))) ∧ (¬ (sg_i u 11) < (sg_i u 8) → (post 0 (ss_i u 10 1)))
def wp_S_fillFrom_153 (WF : Int32 → zz_St → (Int32 → zz_St → Prop) → Prop) (post : Int32 → zz_St → Prop) (kn86 : Int32 → Int32 → Int64 → Int64 → Int32 → Int32 → zz_St → Prop) (x1 : Int32) (x2 : Int32) (x4 : Int64) (x6 : Int64) (x8 : Int32) (x9 : Int32) (u : zz_St) : Prop :=
  kn86 x1 x2 x4 x6 x8 (x9 + (-1)) u
def wp_S_fillFrom_86 (WF : Int32 → zz_St → (Int32 → zz_St → Prop) → Prop) (post : Int32 → zz_St → Prop) (kn86 : Int32 → Int32 → Int64 → Int64 → Int32 → Int32 → zz_St → Prop) (x1 : Int32) (x2 : Int32) (x4 : Int64) (x6 : Int64) (x8 : Int32) (x9 : Int32) (u : zz_St) : Prop :=
  (x9 ≤ 0 → ((x8 = 0 ∨ x8 = 1) ∧ post x8 u)) ∧ (¬ x9 ≤ 0 → ((x8 = 0 → ((x8 = 0 ∨ x8 = 1) ∧ post x8 u)) ∧ (¬ x8 = 0 → (((lg_cmp x4 0) = 0 → (wp_S_lowestBit x6 u (fun r19 s18 => (wp_S_tryWord WF x1 x2 (64 + r19) s18 (fun r21 s20 => (∀ v22 : Int64, v22 = x6 &&& (x6 - 1) → (wp_S_fillFrom_153 WF post kn86 x1 x2 x4 v22 r21 x9 s20))))))) ∧ (¬ (lg_cmp x4 0) = 0 → (wp_S_lowestBit x4 u (fun r24 s23 => (wp_S_tryWord WF x1 x2 r24 s23 (fun r26 s25 => (∀ v27 : Int64, v27 = x4 &&& (x4 - 1) → (wp_S_fillFrom_153 WF post kn86 x1 x2 v27 x6 r26 x9 s25)))))))))))
def wp_S_fillFrom_86_f (WF : Int32 → zz_St → (Int32 → zz_St → Prop) → Prop) (post : Int32 → zz_St → Prop) : Nat → Int32 → Int32 → Int64 → Int64 → Int32 → Int32 → zz_St → Prop
  | 0 => fun _ _ _ _ _ _ _ => False
  | n + 1 => wp_S_fillFrom_86 WF post (wp_S_fillFrom_86_f WF post n)
def wp_S_fillB (WF : Int32 → zz_St → (Int32 → zz_St → Prop) → Prop) (a0 : Int32) (u : zz_St) (post : Int32 → zz_St → Prop) : Prop :=
  (a0 < (sg_i u 3) → (wp_S_slotWithFewest a0 u (fun r3 s2 => ((r3 = (-1) → (post 1 s2)) ∧ (¬ r3 = (-1) → (∀ v5 : Int32, v5 = (a0 * 24) + r3 → (vp_in v5 600 ∧ (∀ v6 : Int64, v6 = (sg_b s2 4 v5.toNatClampNeg) &&& ((sg_l s2 0) ^^^ (-1)) → (vp_in v5 600 ∧ (∀ v7 : Int64, v7 = (sg_b s2 5 v5.toNatClampNeg) &&& ((sg_l s2 1) ^^^ (-1)) → (wp_JL_bitCount v6 s2 (fun r9 s8 => (wp_JL_bitCount v7 s8 (fun r11 s10 => (∀ v12 : Int32, v12 = r9 + r11 → (∃ n : Nat, wp_S_fillFrom_86_f WF post n a0 r3 v6 v7 1 v12 s10)))))))))))))))) ∧ (¬ a0 < (sg_i u 3) → (wp_S_takeFilling u (fun r14 s13 => ((r14 = 0 ∨ r14 = 1) ∧ post r14 s13))))
def wp_S_fillFrom : Nat → Int32 → zz_St → (Int32 → zz_St → Prop) → Prop
  | 0 => fun _ _ _ => False
  | d + 1 => wp_S_fillB (wp_S_fillFrom d)
def wp_S_seek (a0 : Int32) (a1 : Int32) (u : zz_St) (post : Int32 → zz_St → Prop) : Prop :=
  (a1 = 0 ∨ a1 = 1) ∧ (wp_F_forget (ss_i (ss_i (ss_i (ss_i (ss_i (ss_i u 8 a0) 9 a1) 10 0) 11 0) 12 0) 7 0) (fun s1 => (wp_S_clearSlots s1 (fun s2 => (wp_S_fillFrom 26 0 s2 (fun r4 s3 => (((sg_i s3 10) = 0 → (((sg_i s3 12) ≤ 0 → (post 1 s3)) ∧ (¬ (sg_i s3 12) ≤ 0 → (post 0 s3)))) ∧ (¬ (sg_i s3 10) = 0 → (post 2 s3)))))))))
def wp_X_run (a0 : Int32) (u : zz_St) (post : Int32 → zz_St → Prop) : Prop :=
  wp_X_isStepLimit a0 u (fun r2 s1 => ((r2 = 0 → (post (-1) s1)) ∧ (¬ r2 = 0 → (wp_S_seek a0 0 s1 (fun r5 s4 => (post r5 s4))))))
def wp_X_best (a0 : Int32) (u : zz_St) (post : Int32 → zz_St → Prop) : Prop :=
  wp_X_isStepLimit a0 u (fun r2 s1 => ((r2 = 0 → (post (-1) s1)) ∧ (¬ r2 = 0 → (wp_S_seek a0 1 s1 (fun r5 s4 => (post r5 s4))))))

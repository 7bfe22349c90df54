/-! Topic, Bag -/
def tLast (σ : Sg) (i : Nat) (v s w : Int32) : Sg := us (us (us (us σ 42 i 0 1) 43 i 0 v) 44 i 0 s) 45 i 0 w
set_option maxRecDepth 100000 in
set_option maxHeartbeats 4000000 in
/-- the last message of a topic -/
theorem c_Top_setLast (l : Launch) (D : va_G) (ca : Nat → ClassId) (b : Nat) (σ : Sg) {i : Nat} (hi : i < 6) (v s w : Int32) : CtV l D ca SB b 182 y_Top_setLast w_Top_setLast (rmN 0 0) σ [.ref (b + (142 + i)), .int v, .int s, .int w] (fun σ' => σ' = tLast σ i v s w) := by
  refine ct_v "RobotBus$Topic" [(0, .ref (b + (142 + i))), (1, .int v), (2, .int s), (3, .int w)] (by decide) rfl (Nat.le_of_ble_eq_true rfl) rfl (fun X C hret => ?_)
  refine z_aload_n C d_Top_setLast_0 rfl 0 rfl ?_
  refine z_iconst C (v := 1) d_Top_setLast_1 (by decide) ?_
  refine pB_Top_hasLast C d_Top_setLast_2 tw_161 hi (by decide) ?_
  refine z_aload_n C d_Top_setLast_5 rfl 0 rfl ?_
  refine z_iload_n C d_Top_setLast_6 rfl 1 rfl ?_
  refine pB_Top_lastValue C d_Top_setLast_7 tw_163 hi ?_
  refine z_aload_n C d_Top_setLast_10 rfl 0 rfl ?_
  refine z_iload_n C d_Top_setLast_11 rfl 2 rfl ?_
  refine pB_Top_lastSender C d_Top_setLast_12 tw_165 hi ?_
  refine z_aload_n C d_Top_setLast_15 rfl 0 rfl ?_
  refine z_iload_n C d_Top_setLast_16 rfl 3 rfl ?_
  refine pB_Top_lastStamp C d_Top_setLast_17 tw_167 hi ?_
  exact hret _ _ _ d_Top_setLast_20 rfl
def bPlay (σ : Sg) : Int32 := if σ.1 12 0 0 0 ≤ σ.1 11 0 0 0 then 0 else 1
set_option maxRecDepth 100000 in
set_option maxHeartbeats 4000000 in
/-- whether it plays -/
theorem c_Bag_isPlaying (l : Launch) (D : va_G) (ca : Nat → ClassId) (b : Nat) (σ : Sg)  : CtI l D ca SB b 182 y_Bag_isPlaying w_Bag_isPlaying (rmN 0 0) σ [.ref (b + 5)] (fun r σ' => r = bPlay σ ∧ σ' = σ) := by
  refine ct_z "RobotBus$Bag" [(0, .ref (b + 5))] (by decide) rfl (Nat.le_of_ble_eq_true rfl) rfl (fun X C hret => ?_)
  refine z_aload_n C d_Bag_isPlaying_0 rfl 0 rfl ?_
  refine gB_Bag_next C d_Bag_isPlaying_1 tw_50  ?_
  refine z_aload_n C d_Bag_isPlaying_4 rfl 0 rfl ?_
  refine gB_Bag_end C d_Bag_isPlaying_5 tw_51  ?_
  refine z_icmp_ge C 15 d_Bag_isPlaying_8 (by decide) (fun h8 => ?_) (fun h8 => ?_)
  · refine z_iconst C (v := 0) d_Bag_isPlaying_15 (by decide) ?_
    exact hret _ _ _ _ d_Bag_isPlaying_16 (by decide) ⟨by simp [bPlay, h8], rfl⟩
  · refine z_iconst C (v := 1) d_Bag_isPlaying_11 (by decide) ?_
    refine z_goto C 16 d_Bag_isPlaying_12 (by decide) ?_
    exact hret _ _ _ _ d_Bag_isPlaying_16 (by decide) ⟨by simp [bPlay, h8], rfl⟩
def bApp (σ : Sg) (z : Nat) (t o v : Int32) : Sg := if z < 30 then us (upA (upA (upA σ (15, 0, 0) (upd (σ.1 15 0 0) z t)) (16, 0, 0) (upd (σ.1 16 0 0) z o)) (17, 0, 0) (upd (σ.1 17 0 0) z v)) 10 0 0 (nI (z + 1)) else σ
set_option maxRecDepth 100000 in
set_option maxHeartbeats 4000000 in
/-- one more record, if there is room -/
theorem c_Bag_append (l : Launch) (D : va_G) (ca : Nat → ClassId) (b : Nat) (σ : Sg) {z : Nat} (hz : σ.1 10 0 0 0 = nI z) (hz30 : z ≤ 30) (t o v : Int32) : CtV l D ca SB b 182 y_Bag_append w_Bag_append (rmN 0 0) σ [.ref (b + 5), .int t, .int o, .int v] (fun σ' => σ' = bApp σ z t o v) := by
  refine ct_v "RobotBus$Bag" [(0, .ref (b + 5)), (1, .int t), (2, .int o), (3, .int v)] (by decide) rfl (Nat.le_of_ble_eq_true rfl) rfl (fun X C hret => ?_)
  refine z_aload_n C d_Bag_append_0 rfl 0 rfl ?_
  refine gB_Bag_size C d_Bag_append_1 tw_48  ?_
  refine z_bipush C (v := 30) d_Bag_append_4 (by decide) ?_
  refine z_icmp_ge C 49 d_Bag_append_6 (by decide) (fun h6 => ?_) (fun h6 => ?_)
  · rw [hz, show (30 : Int32) = nI 30 by decide, nI_leI (by omega) (by omega)] at h6
    exact hret _ _ _ d_Bag_append_49 (by simp [bApp, show ¬ z < 30 by omega])
  · rw [hz, show (30 : Int32) = nI 30 by decide, nI_leI (by omega) (by omega)] at h6
    refine z_aload_n C d_Bag_append_9 rfl 0 rfl ?_
    refine gB_Bag_times C d_Bag_append_10 tw_43  ?_
    refine z_aload_n C d_Bag_append_13 rfl 0 rfl ?_
    refine gB_Bag_size C d_Bag_append_14 tw_48  ?_
    refine z_ri (x' := nI z) (by first | exact hz | (simp only [upA_ne (show ¬ (10, 0, 0) = (15, 0, 0) by decide), upA_ne (show ¬ (10, 0, 0) = (16, 0, 0) by decide), upA_ne (show ¬ (10, 0, 0) = (17, 0, 0) by decide)]; exact hz)) ?_
    refine z_iload_n C d_Bag_append_17 rfl 1 rfl ?_
    refine stB_bagT C (q := z) d_Bag_append_18  rfl (by omega) ?_
    refine z_aload_n C d_Bag_append_19 rfl 0 rfl ?_
    refine gB_Bag_topics C d_Bag_append_20 tw_44  ?_
    refine z_aload_n C d_Bag_append_23 rfl 0 rfl ?_
    refine gB_Bag_size C d_Bag_append_24 tw_48  ?_
    refine z_ri (x' := nI z) (by first | exact hz | (simp only [upA_ne (show ¬ (10, 0, 0) = (15, 0, 0) by decide), upA_ne (show ¬ (10, 0, 0) = (16, 0, 0) by decide), upA_ne (show ¬ (10, 0, 0) = (17, 0, 0) by decide)]; exact hz)) ?_
    refine z_iload_n C d_Bag_append_27 rfl 2 rfl ?_
    refine stB_bagO C (q := z) d_Bag_append_28  rfl (by omega) ?_
    refine z_aload_n C d_Bag_append_29 rfl 0 rfl ?_
    refine gB_Bag_values C d_Bag_append_30 tw_46  ?_
    refine z_aload_n C d_Bag_append_33 rfl 0 rfl ?_
    refine gB_Bag_size C d_Bag_append_34 tw_48  ?_
    refine z_ri (x' := nI z) (by first | exact hz | (simp only [upA_ne (show ¬ (10, 0, 0) = (15, 0, 0) by decide), upA_ne (show ¬ (10, 0, 0) = (16, 0, 0) by decide), upA_ne (show ¬ (10, 0, 0) = (17, 0, 0) by decide)]; exact hz)) ?_
    refine z_iload_n C d_Bag_append_37 rfl 3 rfl ?_
    refine stB_bagV C (q := z) d_Bag_append_38  rfl (by omega) ?_
    refine z_aload_n C d_Bag_append_39 rfl 0 rfl ?_
    refine z_dup C d_Bag_append_40 rfl ?_
    refine gB_Bag_size C d_Bag_append_41 tw_48  ?_
    refine z_iconst C (v := 1) d_Bag_append_44 (by decide) ?_
    refine z_iadd C d_Bag_append_45 ?_
    refine z_ri (x' := nI (z + 1)) (by simp only [upA_ne (show ¬ (10, 0, 0) = (15, 0, 0) by decide), upA_ne (show ¬ (10, 0, 0) = (16, 0, 0) by decide), upA_ne (show ¬ (10, 0, 0) = (17, 0, 0) by decide)]; rw [hz]; exact nI_add z 1) ?_
    refine pB_Bag_size C d_Bag_append_46 tw_48  ?_
    exact hret _ _ _ d_Bag_append_49 (by simp only [bApp, show z < 30 by omega, if_true, upA_ne (show ¬ (16, 0, 0) = (15, 0, 0) by decide), upA_ne (show ¬ (17, 0, 0) = (15, 0, 0) by decide), upA_ne (show ¬ (17, 0, 0) = (16, 0, 0) by decide)])
def bStart (σ : Sg) (c s : Int32) : Sg := us (us (us (us σ 11 0 0 0) 12 0 0 (σ.1 10 0 0 0)) 13 0 0 c) 14 0 0 s
set_option maxRecDepth 100000 in
set_option maxHeartbeats 4000000 in
/-- playing begins -/
theorem c_Bag_start (l : Launch) (D : va_G) (ca : Nat → ClassId) (b : Nat) (σ : Sg) (c s : Int32) : CtV l D ca SB b 182 y_Bag_start w_Bag_start (rmN 0 0) σ [.ref (b + 5), .int c, .int s] (fun σ' => σ' = bStart σ c s) := by
  refine ct_v "RobotBus$Bag" [(0, .ref (b + 5)), (1, .int c), (2, .int s)] (by decide) rfl (Nat.le_of_ble_eq_true rfl) rfl (fun X C hret => ?_)
  refine z_aload_n C d_Bag_start_0 rfl 0 rfl ?_
  refine z_iconst C (v := 0) d_Bag_start_1 (by decide) ?_
  refine pB_Bag_next C d_Bag_start_2 tw_50  ?_
  refine z_aload_n C d_Bag_start_5 rfl 0 rfl ?_
  refine z_aload_n C d_Bag_start_6 rfl 0 rfl ?_
  refine gB_Bag_size C d_Bag_start_7 tw_48  ?_
  refine pB_Bag_end C d_Bag_start_10 tw_51  ?_
  refine z_aload_n C d_Bag_start_13 rfl 0 rfl ?_
  refine z_iload_n C d_Bag_start_14 rfl 1 rfl ?_
  refine pB_Bag_startClock C d_Bag_start_15 tw_52  ?_
  refine z_aload_n C d_Bag_start_18 rfl 0 rfl ?_
  refine z_iload_n C d_Bag_start_19 rfl 2 rfl ?_
  refine pB_Bag_pace C d_Bag_start_20 tw_53  ?_
  exact hret _ _ _ d_Bag_start_23 (by simp only [bStart, us_ne (show ¬ (10, 0, 0) = (11, 0, 0) by decide)])
set_option maxRecDepth 100000 in
set_option maxHeartbeats 4000000 in
/-- the next record -/
theorem c_Bag_takeNext (l : Launch) (D : va_G) (ca : Nat → ClassId) (b : Nat) (σ : Sg)  : CtI l D ca SB b 182 y_Bag_takeNext w_Bag_takeNext (rmN 0 0) σ [.ref (b + 5)] (fun r σ' => r = σ.1 11 0 0 0 ∧ σ' = us σ 11 0 0 (σ.1 11 0 0 0 + 1)) := by
  refine ct_i "RobotBus$Bag" [(0, .ref (b + 5))] (by decide) rfl (Nat.le_of_ble_eq_true rfl) rfl (fun X C hret => ?_)
  refine z_aload_n C d_Bag_takeNext_0 rfl 0 rfl ?_
  refine gB_Bag_next C d_Bag_takeNext_1 tw_50  ?_
  refine z_istore_n C d_Bag_takeNext_4 rfl (by decide) [(1, .int (σ.1 11 0 0 0)), (0, .ref (b + 5))] rfl ?_
  refine z_aload_n C d_Bag_takeNext_5 rfl 1 rfl ?_
  refine z_dup C d_Bag_takeNext_6 rfl ?_
  refine gB_Bag_next C d_Bag_takeNext_7 tw_50  ?_
  refine z_iconst C (v := 1) d_Bag_takeNext_10 (by decide) ?_
  refine z_iadd C d_Bag_takeNext_11 ?_
  refine pB_Bag_next C d_Bag_takeNext_12 tw_50  ?_
  refine z_iload_n C d_Bag_takeNext_15 rfl 0 rfl ?_
  exact hret _ _ _ _ d_Bag_takeNext_16 ⟨rfl, rfl⟩
def bDue (σ : Sg) (c : Int32) (x : Nat) : Int32 := if σ.1 12 0 0 0 ≤ σ.1 11 0 0 0 then 0 else if c < σ.1 13 0 0 0 + (σ.1 15 0 0 x - σ.1 15 0 0 0 + σ.1 14 0 0 0 - 1) / σ.1 14 0 0 0 then 0 else 1
set_option maxRecDepth 100000 in
set_option maxHeartbeats 4000000 in
/-- whether the next record is due -/
theorem c_Bag_isDue (l : Launch) (D : va_G) (ca : Nat → ClassId) (b : Nat) (σ : Sg) (c : Int32) {x : Nat} (hx : σ.1 11 0 0 0 = nI x) (hx30 : ¬ σ.1 12 0 0 0 ≤ σ.1 11 0 0 0 → x < 30) (hp : ¬ σ.1 14 0 0 0 = 0) : CtI l D ca SB b 182 y_Bag_isDue w_Bag_isDue (rmN 1 20) σ [.ref (b + 5), .int c] (fun r σ' => r = bDue σ c x ∧ σ' = σ) := by
  refine ct_z "RobotBus$Bag" [(0, .ref (b + 5)), (1, .int c)] (by decide) rfl (Nat.le_of_ble_eq_true rfl) rfl (fun X C hret => ?_)
  refine z_aload_n C d_Bag_isDue_0 rfl 0 rfl ?_
  refine zf_Vi C d_Bag_isDue_1 (c_Bag_isPlaying l D ca b σ) tw_552 tw_553 tw_554 tw_2 tw_555 pd_Bag_isPlaying ⟨⟨by decide, by decide⟩, rfl, rfl, by decide, by decide⟩ (by omega) rfl (eB_Bag ) rfl (Nat.le_of_ble_eq_true rfl) rfl ?_
  refine z_if_ne C 9 d_Bag_isDue_4 (by decide) (fun h4 => ?_) (fun h4 => ?_)
  · have h9 : ¬ σ.1 12 0 0 0 ≤ σ.1 11 0 0 0 := fun q => h4 (by simp [bPlay, q])
    refine z_aload_n C d_Bag_isDue_9 rfl 0 rfl ?_
    refine gB_Bag_times C d_Bag_isDue_10 tw_43  ?_
    refine z_aload_n C d_Bag_isDue_13 rfl 0 rfl ?_
    refine gB_Bag_next C d_Bag_isDue_14 tw_50  ?_
    refine z_ri (x' := nI x) hx ?_
    refine lB_bagT C (q := x) d_Bag_isDue_17  rfl (hx30 h9) ?_
    refine z_aload_n C d_Bag_isDue_18 rfl 0 rfl ?_
    refine gB_Bag_times C d_Bag_isDue_19 tw_43  ?_
    refine z_iconst C (v := 0) d_Bag_isDue_22 (by decide) ?_
    refine lB_bagT C (q := 0) d_Bag_isDue_23  (by decide) (by omega) ?_
    refine z_isub C d_Bag_isDue_24 ?_
    refine z_istore_n C d_Bag_isDue_25 rfl (by decide) [(2, .int ((σ.1 15 0 0 x) - (σ.1 15 0 0 0))), (0, .ref (b + 5)), (1, .int c)] rfl ?_
    refine z_aload_n C d_Bag_isDue_26 rfl 1 rfl ?_
    refine gB_Bag_startClock C d_Bag_isDue_27 tw_52  ?_
    refine z_iload_n C d_Bag_isDue_30 rfl 0 rfl ?_
    refine z_aload_n C d_Bag_isDue_31 rfl 1 rfl ?_
    refine gB_Bag_pace C d_Bag_isDue_32 tw_53  ?_
    refine z_iadd C d_Bag_isDue_35 ?_
    refine z_iconst C (v := 1) d_Bag_isDue_36 (by decide) ?_
    refine z_isub C d_Bag_isDue_37 ?_
    refine z_aload_n C d_Bag_isDue_38 rfl 1 rfl ?_
    refine gB_Bag_pace C d_Bag_isDue_39 tw_53  ?_
    refine z_idiv C d_Bag_isDue_42 hp ?_
    refine z_iadd C d_Bag_isDue_43 ?_
    refine z_iload_n C d_Bag_isDue_44 rfl 2 rfl ?_
    refine z_icmp_gt C 52 d_Bag_isDue_45 (by decide) (fun h45 => ?_) (fun h45 => ?_)
    · refine z_iconst C (v := 0) d_Bag_isDue_52 (by decide) ?_
      exact hret _ _ _ _ d_Bag_isDue_53 (by decide) ⟨by simp [bDue, h9, h45], rfl⟩
    · refine z_iconst C (v := 1) d_Bag_isDue_48 (by decide) ?_
      refine z_goto C 53 d_Bag_isDue_49 (by decide) ?_
      exact hret _ _ _ _ d_Bag_isDue_53 (by decide) ⟨by simp [bDue, h9, h45], rfl⟩
  · have h9 : σ.1 12 0 0 0 ≤ σ.1 11 0 0 0 := by
      by_cases q : σ.1 12 0 0 0 ≤ σ.1 11 0 0 0
      · exact q
      · simp [bPlay, q] at h4
    refine z_iconst C (v := 0) d_Bag_isDue_7 (by decide) ?_
    exact hret _ _ _ _ d_Bag_isDue_8 (by decide) ⟨by simp [bDue, h9], rfl⟩
/-! Node -/
set_option maxRecDepth 100000 in
set_option maxHeartbeats 4000000 in
/-- takes the oldest message of a topic -/
theorem c_Nod_takeFrom (l : Launch) (D : va_G) (ca : Nat → ClassId) (b : Nat) (σ : Sg) {i t q : Nat} (hi : i < 6) (ht : t < 6) (hq : σ.1 34 i t 0 = nI q) (hq1 : 1 ≤ q) (hq4 : q ≤ 4) : CtI l D ca SB b 182 y_Nod_takeFrom w_Nod_takeFrom (rmN 2 40) σ [.ref (b + (10 + 22 * i)), .int (nI t)] (fun r σ' => r = σ.1 35 i t (0 * 3 + 0) ∧ σ' = us (qDrop σ i t q 1) 31 i 0 (nI ((t + 1) % 6))) := by
  refine ct_i "RobotBus$Node" [(0, .ref (b + (10 + 22 * i))), (1, .int (nI t))] (by decide) rfl (Nat.le_of_ble_eq_true rfl) rfl (fun X C hret => ?_)
  refine z_aload_n C d_Nod_takeFrom_0 rfl 0 rfl ?_
  refine gB_Nod_queues C d_Nod_takeFrom_1 tw_134 hi ?_
  refine z_iload_n C d_Nod_takeFrom_4 rfl 1 rfl ?_
  refine rB_ques C (j := t) d_Nod_takeFrom_5 hi rfl ht ?_
  refine z_iconst C (v := 0) d_Nod_takeFrom_6 (by decide) ?_
  refine z_iconst C (v := 0) d_Nod_takeFrom_7 (by decide) ?_
  refine z_ri (x' := nI 0) (by decide) ?_
  refine z_ri2 (x' := nI 0) (by decide) ?_
  refine zf_Vi C d_Nod_takeFrom_8 (c_Que_part l D ca b σ hi ht (p := 0) (w := 0) (by decide) (by decide)) tw_572 tw_573 tw_574 tw_5 tw_575 pd_Que_part ⟨⟨by decide, by decide⟩, rfl, rfl, by decide, by decide⟩ (by omega) rfl (eB_Que hi ht) rfl (Nat.le_of_ble_eq_true rfl) rfl ?_
  refine z_istore_n C d_Nod_takeFrom_11 rfl (by decide) [(2, .int (σ.1 35 i t (0 * 3 + 0))), (0, .ref (b + (10 + 22 * i))), (1, .int (nI t))] rfl ?_
  refine z_aload_n C d_Nod_takeFrom_12 rfl 1 rfl ?_
  refine gB_Nod_queues C d_Nod_takeFrom_13 tw_134 hi ?_
  refine z_iload_n C d_Nod_takeFrom_16 rfl 2 rfl ?_
  refine rB_ques C (j := t) d_Nod_takeFrom_17 hi rfl ht ?_
  refine z_iconst C (v := 1) d_Nod_takeFrom_18 (by decide) ?_
  refine z_ri (x' := nI 1) (by decide) ?_
  refine zf_Vv C d_Nod_takeFrom_19 (c_Que_dropOldest l D ca b σ hi ht (m := 1) hq hq1 hq4) tw_576 tw_442 tw_443 tw_5 tw_444 pd_Que_dropOldest ⟨⟨by decide, by decide⟩, rfl, rfl, by decide, by decide⟩ (by omega) rfl (eB_Que hi ht) rfl (Nat.le_of_ble_eq_true rfl) rfl ?_
  refine z_aload_n C d_Nod_takeFrom_22 rfl 1 rfl ?_
  refine z_iload_n C d_Nod_takeFrom_23 rfl 2 rfl ?_
  refine z_iconst C (v := 1) d_Nod_takeFrom_24 (by decide) ?_
  refine z_iadd C d_Nod_takeFrom_25 ?_
  refine z_bipush C (v := 6) d_Nod_takeFrom_26 (by decide) ?_
  refine z_irem C d_Nod_takeFrom_28 (by decide) ?_
  refine z_ri (x' := nI ((t + 1) % 6)) (by rw [nI_1, show (6 : Int32) = nI 6 by decide]; exact pk_rem (by omega) (by decide) (by decide)) ?_
  refine pB_Nod_firstLookedAt C d_Nod_takeFrom_29 tw_140 hi ?_
  refine z_iload_n C d_Nod_takeFrom_32 rfl 0 rfl ?_
  exact hret _ _ _ _ d_Nod_takeFrom_33 ⟨rfl, rfl⟩
def nTop (σ : Sg) (i f : Nat) : Nat → Nat → Int32
  | 0, _ => -1
  | m + 1, k => if σ.1 34 i ((f + k) % 6) 0 ≤ 0 then nTop σ i f m (k + 1) else nI ((f + k) % 6)
set_option maxRecDepth 100000 in
set_option maxHeartbeats 4000000 in
theorem lp_Nod_nextTopic (l : Launch) (D : va_G) (ca : Nat → ClassId) (b : Nat) {R : Room} {X : Zx} {cx : Cond} (C : Cs D ca b_Nod_nextTopic 3 "RobotBus$Node" cx X) (σ : Sg) {i f : Nat} (hi : i < 6) (hf : σ.1 31 i 0 0 = nI f) (hf6 : f < 6) (hret : ∀ (v : Int32) (σ' : Sg) (pc : Nat) (L' : List (Nat × Value)), decode b_Nod_nextTopic pc = .ok (.ireturn, 1) → (v = nTop σ i f 6 0 ∧ σ' = σ) → Zs l D ca SB b 182 R 3 X σ' pc L' [.int v]) : ∀ m k, k + m = 6 → nTop σ i f 6 0 = nTop σ i f m k → Zs l D ca SB b 182 R 3 X σ 2 [(1, .int (nI k)), (0, .ref (b + (10 + 22 * i)))] [] := by
  intro m
  induction m with
  | zero =>
    intro k hk he
    have hk6 : k = 6 := by omega
    subst hk6
    refine z_iload_n C d_Nod_nextTopic_2 rfl 0 rfl ?_
    refine z_bipush C (v := 6) d_Nod_nextTopic_3 (by decide) ?_
    refine z_icmp_ge C 38 d_Nod_nextTopic_5 (by decide) (fun h5 => ?_) (fun h5 => False.elim (h5 (by decide)))
    refine z_iconst C (v := -1) d_Nod_nextTopic_38 (by decide) ?_
    exact hret _ _ _ _ d_Nod_nextTopic_39 ⟨by rw [he]; rfl, rfl⟩
  | succ m ih =>
    intro k hk he
    refine z_iload_n C d_Nod_nextTopic_2 rfl 0 rfl ?_
    refine z_bipush C (v := 6) d_Nod_nextTopic_3 (by decide) ?_
    refine z_icmp_ge C 38 d_Nod_nextTopic_5 (by decide) (fun h5 => False.elim (nI_ge (a := k) (b := 6) (by omega) (by decide) h5)) (fun h5 => ?_)
    refine z_aload_n C d_Nod_nextTopic_8 rfl 1 rfl ?_
    refine gB_Nod_firstLookedAt C d_Nod_nextTopic_9 tw_140 hi ?_
    refine z_iload_n C d_Nod_nextTopic_12 rfl 0 rfl ?_
    refine z_ri2 (x' := nI f) hf ?_
    refine z_iadd C d_Nod_nextTopic_13 ?_
    refine z_bipush C (v := 6) d_Nod_nextTopic_14 (by decide) ?_
    refine z_irem C d_Nod_nextTopic_16 (by decide) ?_
    refine z_ri (x' := nI ((f + k) % 6)) (by rw [nI_add, show (6 : Int32) = nI 6 by decide]; exact pk_rem (by omega) (by decide) (by decide)) ?_
    refine z_istore_n C d_Nod_nextTopic_17 rfl (by decide) [(2, .int (nI ((f + k) % 6))), (1, .int (nI k)), (0, .ref (b + (10 + 22 * i)))] rfl ?_
    refine z_aload_n C d_Nod_nextTopic_18 rfl 2 rfl ?_
    refine gB_Nod_queues C d_Nod_nextTopic_19 tw_134 hi ?_
    refine z_iload_n C d_Nod_nextTopic_22 rfl 0 rfl ?_
    refine rB_ques C (j := ((f + k) % 6)) d_Nod_nextTopic_23 hi rfl (by omega) ?_
    refine gB_Que_size C d_Nod_nextTopic_24 tw_104 hi (by omega) ?_
    refine z_if_le C 32 d_Nod_nextTopic_27 (by decide) (fun h27 => ?_) (fun h27 => ?_)
    · refine z_iinc C d_Nod_nextTopic_32 1 rfl (v := (nI (k + 1))) (by rw [← nI_1]; rfl) (by decide) [(1, .int (nI (k + 1))), (2, .int (nI ((f + k) % 6))), (0, .ref (b + (10 + 22 * i)))] rfl ?_
      refine z_goto C 2 d_Nod_nextTopic_35 (by decide) ?_
      refine z_loc [0, 2] rfl ?_
      exact ih (k + 1) (by omega) (by rw [he]; simp [nTop, h27])
    · refine z_iload_n C d_Nod_nextTopic_30 rfl 0 rfl ?_
      exact hret _ _ _ _ d_Nod_nextTopic_31 ⟨by rw [he]; simp [nTop, h27], rfl⟩
set_option maxRecDepth 100000 in
set_option maxHeartbeats 4000000 in
/-- the first topic around with a message -/
theorem c_Nod_nextTopic (l : Launch) (D : va_G) (ca : Nat → ClassId) (b : Nat) (σ : Sg) {i f : Nat} (hi : i < 6) (hf : σ.1 31 i 0 0 = nI f) (hf6 : f < 6) : CtI l D ca SB b 182 y_Nod_nextTopic w_Nod_nextTopic (rmN 0 0) σ [.ref (b + (10 + 22 * i))] (fun r σ' => r = nTop σ i f 6 0 ∧ σ' = σ) := by
  refine ct_i "RobotBus$Node" [(0, .ref (b + (10 + 22 * i)))] (by decide) rfl (Nat.le_of_ble_eq_true rfl) rfl (fun X C hret => ?_)
  refine z_iconst C (v := 0) d_Nod_nextTopic_0 (by decide) ?_
  refine z_istore_n C d_Nod_nextTopic_1 rfl (by decide) [(1, .int 0), (0, .ref (b + (10 + 22 * i)))] rfl ?_
  exact lp_Nod_nextTopic l D ca b C σ hi hf hf6 hret 6 0 rfl rfl

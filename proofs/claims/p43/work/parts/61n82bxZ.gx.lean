theorem gX_all : ∀ e ∈ gGL, ∃ U ∈ gTabs, gGdE [U] e ∧ gX43 U e := by
  rw [keql_s kgl_e]
  exact (List.forall_mem_append.mpr ⟨kxE_A (fun T hT => List.mem_append_left _ hT), (List.forall_mem_append.mpr ⟨kxE_B (fun T hT => List.mem_append_right _ (List.mem_append_left _ hT)), (List.forall_mem_append.mpr ⟨kxE_C (fun T hT => List.mem_append_right _ (List.mem_append_right _ (List.mem_append_left _ hT))), (List.forall_mem_append.mpr ⟨kxE_D (fun T hT => List.mem_append_right _ (List.mem_append_right _ (List.mem_append_right _ (List.mem_append_left _ hT)))), (List.forall_mem_append.mpr ⟨kxE_E (fun T hT => List.mem_append_right _ (List.mem_append_right _ (List.mem_append_right _ (List.mem_append_right _ (List.mem_append_left _ hT))))), kxE_F (fun T hT => List.mem_append_right _ (List.mem_append_right _ (List.mem_append_right _ (List.mem_append_right _ (List.mem_append_right _ (hT))))))⟩)⟩)⟩)⟩)⟩)
theorem gTb_fin {mv : List Nat} {c : Nat → Nat} {T : zGT} (hT : gTb mv c T) (h24 : gN T ≤ 24) : gFin mv := by
  obtain ⟨a1, a2, -⟩ := hT
  refine ⟨(List.range (gN T)).map c, by rw [List.length_map, List.length_range]; exact h24, ?_, fun x hx g hg => ?_⟩
  · obtain ⟨i, hi, e⟩ := (a2 gid).mp (gGen.id mv)
    exact List.mem_map.mpr ⟨i, List.mem_range.mpr hi, e⟩
  · obtain ⟨i, hi, e⟩ := List.mem_map.mp hx
    obtain ⟨k, hk, e2⟩ := (a2 (gco x g)).mp (((a2 x).mpr ⟨i, List.mem_range.mp hi, e⟩).g hg)
    exact List.mem_map.mpr ⟨k, List.mem_range.mpr hk, e2⟩
theorem gx_take {mv : List Nat} {c : Nat → Nat} {T : zGT} {P : Nat} {what n : Int} (hT : gTb mv c T) (hp : ∀ g ∈ mv, gpm g) (hP : P ≤ 6) (hl : ∀ m, m < gN T → ∀ p, p < P → gdg (c m) p < P) (hw : what = 0 ∨ ((what = 1 ∨ what = 2) ∧ 0 ≤ n ∧ n ≤ 6)) : ∃ x : Nat → Int, ∀ j, j < (gF T).length → zmq (gF T).length (gmkI T) x j = tkv (zrr P T c (gFn T j)) what n := by
  have hO := gTabs_ok T hT.1
  obtain ⟨e, he, hex⟩ := gcls gGL_w mv hp (gTb_fin hT hO.1.2.1)
  obtain ⟨U, hU, ⟨d1, d2, d3, d4, V, hV, t1, t2, t3⟩, hx⟩ := gX_all e he
  have eV : V = U := List.mem_singleton.mp hV
  rw [eV] at t1 t2 t3
  have hTU : gTb mv (kL (eL e)) U := ⟨hU, fun x => (hex x).trans (by unfold gMem; rw [t1]), fun i j h1 h2 => d3 i j h1 (by omega), fun a b h1 h2 => (by
    obtain ⟨v1, v2⟩ := t2 a b (by omega) (by omega)
    exact ⟨by omega, v2⟩), fun a h1 => (by
    obtain ⟨v1, v2⟩ := t3 a (by omega)
    exact ⟨by omega, v2⟩)⟩
  obtain rfl : T = U := zTm_uq ⟨c, hT⟩ ⟨_, hTU⟩
  have hc := gTb_c hT hTU
  obtain ⟨cs, h1, h2⟩ := hx P hP (fun a ha p hp => by rw [← hc a ha]; exact hl a ha p hp)
  obtain ⟨w, hw15, hwv⟩ := kxu_v hP hw
  obtain ⟨x, hx2⟩ := h2 w hw15
  refine ⟨x, fun j hj => ?_⟩
  have hm : zrr P T c (gFn T j) ∈ tkall P := zPt_m hP (zPt_g hT hp hP hl (hO.2.2.1.2.1 _ (gFn_m hj)).1)
  rw [hx2 j hj, hwv _ hm, kxr_z, ← h1 j hj, kxd_c (fun p _ => zrch_c hc)]
theorem gx_take_0 {mv : List Nat} {c : Nat → Nat} {T : zGT} {P : Nat} {what n : Int} (hT : gTb mv c T) (hp : ∀ g ∈ mv, gpm g) (hP : P ≤ 6) (hl : ∀ m, m < gN T → ∀ p, p < P → gdg (c m) p < P) (hw : what = 0 ∨ ((what = 1 ∨ what = 2) ∧ 0 ≤ n ∧ n ≤ 6)) (hA : zTA (gF T).length (gmkI T)) {j : Nat} (hj : j < (gF T).length) : zmq (gF T).length (gmkI T) (zsq (gF T).length (gmkI T) (fun j => tkv (zrr P T c (gFn T j)) what n)) j = tkv (zrr P T c (gFn T j)) what n := by
  obtain ⟨x, hx⟩ := gx_take hT hp hP hl hw
  exact zsq_m hA hx hj

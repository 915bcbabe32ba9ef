/-- reading, a step at a time -/
theorem zr_bind {α β : Type} {x : Jvm.ClassFile.Decoder α} {f : α → Jvm.ClassFile.Decoder β} {b : ByteArray} {p q : Nat} {a : α} (h : x b p = .ok (a, q)) : (x >>= f) b p = f a b q := by
  show Except.bind (x b p) (fun z => f z.1 b z.2) = _
  rw [h]
  rfl
theorem zr_u1 {b : ByteArray} {p : Nat} (h : p < b.size) : (Jvm.ClassFile.Reader.u1 : Jvm.ClassFile.Decoder Nat) b p = .ok (b[p].toNat, p + 1) := by
  unfold Jvm.ClassFile.Reader.u1
  refine Eq.trans (zr_bind (x := (read : Jvm.ClassFile.Decoder ByteArray)) (a := b) (q := p) rfl) ?_
  refine Eq.trans (zr_bind (x := (get : Jvm.ClassFile.Decoder Nat)) (a := p) (q := p) rfl) ?_
  rw [dif_pos h]
  rfl
theorem zr_u2 {b : ByteArray} {p : Nat} (h : p < b.size) (h1 : p + 1 < b.size) : (Jvm.ClassFile.Reader.u2 : Jvm.ClassFile.Decoder Nat) b p = .ok (b[p].toNat * 256 + b[p + 1].toNat, p + 2) := by
  unfold Jvm.ClassFile.Reader.u2
  exact (zr_bind (zr_u1 h)).trans ((zr_bind (zr_u1 h1)).trans rfl)
theorem zr_s1 {b : ByteArray} {p : Nat} (h : p < b.size) : (Jvm.ClassFile.Reader.s1 : Jvm.ClassFile.Decoder Int) b p = .ok (Jvm.ClassFile.Reader.signed 8 b[p].toNat, p + 1) := by
  unfold Jvm.ClassFile.Reader.s1
  show Except.bind ((Jvm.ClassFile.Reader.u1 : Jvm.ClassFile.Decoder Nat) b p) _ = _
  rw [zr_u1 h]
  rfl
theorem zr_s2 {b : ByteArray} {p : Nat} (h : p < b.size) (h1 : p + 1 < b.size) : (Jvm.ClassFile.Reader.s2 : Jvm.ClassFile.Decoder Int) b p = .ok (Jvm.ClassFile.Reader.signed 16 (b[p].toNat * 256 + b[p + 1].toNat), p + 2) := by
  unfold Jvm.ClassFile.Reader.s2
  show Except.bind ((Jvm.ClassFile.Reader.u2 : Jvm.ClassFile.Decoder Nat) b p) _ = _
  rw [zr_u2 h h1]
  rfl
theorem zr_op {b : ByteArray} {pc c n : Nat} {i : Instr} {f : Nat → Jvm.ClassFile.Decoder Instr} (h : pc < b.size) (hc : b[pc].toNat = c) (hf : Jvm.ClassFile.Decoder.instr pc = (Jvm.ClassFile.Reader.u1 >>= f)) (hi : f c b (pc + 1) = .ok (i, pc + n)) : decode b pc = .ok (i, n) := by
  have h1 : Jvm.ClassFile.Decoder.instr pc b pc = .ok (i, pc + n) := by
    rw [hf]
    exact (zr_bind (zr_u1 h)).trans (by rw [hc]; exact hi)
  show Except.bind (Jvm.ClassFile.Decoder.instr pc b pc) (fun z => .ok (z.1, z.2 - pc)) = _
  rw [h1]
  show Except.ok (i, pc + n - pc) = _
  rw [Nat.add_sub_cancel_left]
theorem zr_1u {b : ByteArray} {pc c v : Nat} {g : Nat → Instr} {f : Nat → Jvm.ClassFile.Decoder Instr} (h : pc < b.size) (hc : b[pc].toNat = c) (h1 : pc + 1 < b.size) (hv : b[pc + 1].toNat = v) (hf : Jvm.ClassFile.Decoder.instr pc = (Jvm.ClassFile.Reader.u1 >>= f)) (hk : f c = (Jvm.ClassFile.Reader.u1 >>= fun v => pure (g v))) : decode b pc = .ok (g v, 2) :=
  zr_op h hc hf (by rw [hk]; exact (zr_bind (zr_u1 h1)).trans (by rw [hv]; rfl))
theorem zr_1s {b : ByteArray} {pc c : Nat} {v : Int} {g : Int → Instr} {f : Nat → Jvm.ClassFile.Decoder Instr} (h : pc < b.size) (hc : b[pc].toNat = c) (h1 : pc + 1 < b.size) (hv : Jvm.ClassFile.Reader.signed 8 b[pc + 1].toNat = v) (hf : Jvm.ClassFile.Decoder.instr pc = (Jvm.ClassFile.Reader.u1 >>= f)) (hk : f c = (Jvm.ClassFile.Reader.s1 >>= fun v => pure (g v))) : decode b pc = .ok (g v, 2) :=
  zr_op h hc hf (by rw [hk]; exact (zr_bind (zr_s1 h1)).trans (by rw [hv]; rfl))
theorem zr_2u {b : ByteArray} {pc c v : Nat} {g : Nat → Instr} {f : Nat → Jvm.ClassFile.Decoder Instr} (h : pc < b.size) (hc : b[pc].toNat = c) (h1 : pc + 1 < b.size) (h2 : pc + 2 < b.size) (hv : b[pc + 1].toNat * 256 + b[pc + 2].toNat = v) (hf : Jvm.ClassFile.Decoder.instr pc = (Jvm.ClassFile.Reader.u1 >>= f)) (hk : f c = (Jvm.ClassFile.Reader.u2 >>= fun v => pure (g v))) : decode b pc = .ok (g v, 3) :=
  zr_op h hc hf (by rw [hk]; exact (zr_bind (zr_u2 h1 h2)).trans (by rw [hv]; rfl))
theorem zr_2s {b : ByteArray} {pc c : Nat} {v : Int} {g : Int → Instr} {f : Nat → Jvm.ClassFile.Decoder Instr} (h : pc < b.size) (hc : b[pc].toNat = c) (h1 : pc + 1 < b.size) (h2 : pc + 2 < b.size) (hv : Jvm.ClassFile.Reader.signed 16 (b[pc + 1].toNat * 256 + b[pc + 2].toNat) = v) (hf : Jvm.ClassFile.Decoder.instr pc = (Jvm.ClassFile.Reader.u1 >>= f)) (hk : f c = (Jvm.ClassFile.Reader.s2 >>= fun v => pure (g v))) : decode b pc = .ok (g v, 3) :=
  zr_op h hc hf (by rw [hk]; exact (zr_bind (zr_s2 h1 h2)).trans (by rw [hv]; rfl))
theorem zr_inc {b : ByteArray} {pc v : Nat} {w : Int} {f : Nat → Jvm.ClassFile.Decoder Instr} (h : pc < b.size) (hc : b[pc].toNat = 132) (h1 : pc + 1 < b.size) (h2 : pc + 2 < b.size) (hv : b[pc + 1].toNat = v) (hw : Jvm.ClassFile.Reader.signed 8 b[pc + 2].toNat = w) (hf : Jvm.ClassFile.Decoder.instr pc = (Jvm.ClassFile.Reader.u1 >>= f)) (hk : f 132 = (Jvm.ClassFile.Reader.u1 >>= fun v => Jvm.ClassFile.Reader.s1 >>= fun w => pure (.iinc v w))) : decode b pc = .ok (.iinc v w, 3) :=
  zr_op h hc hf (by rw [hk]; exact (zr_bind (zr_u1 h1)).trans ((zr_bind (zr_s1 h2)).trans (by rw [hv, hw]; rfl)))
/-- the bytes from a place on -/
theorem zd_1 {b : ByteArray} {pc : Nat} {a : UInt8} {r : List UInt8} (h : b.data.toList.drop pc = a :: r) : ∃ hp : pc < b.size, b[pc].toNat = a.toNat ∧ b.data.toList.drop (pc + 1) = r := by
  obtain ⟨⟨l⟩⟩ := b
  change List.drop pc l = a :: r at h
  have hl : pc < l.length := by
    rcases Nat.lt_or_ge pc l.length with q | q
    · exact q
    · rw [List.drop_eq_nil_of_le q] at h
      cases h
  rw [List.drop_eq_getElem_cons hl] at h
  injection h with h1 h2
  exact ⟨hl, congrArg UInt8.toNat h1, h2⟩
def zq1 (r : List UInt8) (p : Nat → Bool) : Bool := match r with
  | x :: _ => p x.toNat
  | _ => false
def zq2 (r : List UInt8) (p : Nat → Nat → Bool) : Bool := match r with
  | x :: y :: _ => p x.toNat y.toNat
  | _ => false
theorem zq1_ok {b : ByteArray} {pc : Nat} {p : Nat → Bool} (h : zq1 (b.data.toList.drop pc) p = true) : ∃ hp : pc < b.size, p b[pc].toNat = true := by
  unfold zq1 at h
  split at h
  · rename_i x t he
    obtain ⟨hp, h1, -⟩ := zd_1 he
    exact ⟨hp, by rw [h1]; exact h⟩
  · cases h
theorem zq2_ok {b : ByteArray} {pc : Nat} {p : Nat → Nat → Bool} (h : zq2 (b.data.toList.drop pc) p = true) : ∃ (hp : pc < b.size) (hq : pc + 1 < b.size), p b[pc].toNat b[pc + 1].toNat = true := by
  unfold zq2 at h
  split at h
  · rename_i x y t he
    obtain ⟨hp, h1, h2⟩ := zd_1 he
    obtain ⟨hq, h3, -⟩ := zd_1 h2
    exact ⟨hp, hq, by rw [h1, h3]; exact h⟩
  · cases h
def zQ (i : Instr) (bs : List UInt8) : Bool := match bs with
  | [] => false
  | a :: r => match i with
    | .iaload => Nat.beq a.toNat 46
    | .laload => Nat.beq a.toNat 47
    | .aaload => Nat.beq a.toNat 50
    | .baload => Nat.beq a.toNat 51
    | .iastore => Nat.beq a.toNat 79
    | .lastore => Nat.beq a.toNat 80
    | .aastore => Nat.beq a.toNat 83
    | .bastore => Nat.beq a.toNat 84
    | .pop => Nat.beq a.toNat 87
    | .pop2 => Nat.beq a.toNat 88
    | .dup => Nat.beq a.toNat 89
    | .dup_x1 => Nat.beq a.toNat 90
    | .dup_x2 => Nat.beq a.toNat 91
    | .dup2 => Nat.beq a.toNat 92
    | .iadd => Nat.beq a.toNat 96
    | .ladd => Nat.beq a.toNat 97
    | .isub => Nat.beq a.toNat 100
    | .lsub => Nat.beq a.toNat 101
    | .imul => Nat.beq a.toNat 104
    | .idiv => Nat.beq a.toNat 108
    | .irem => Nat.beq a.toNat 112
    | .ineg => Nat.beq a.toNat 116
    | .ishl => Nat.beq a.toNat 120
    | .ishr => Nat.beq a.toNat 122
    | .lshl => Nat.beq a.toNat 121
    | .lushr => Nat.beq a.toNat 125
    | .iand => Nat.beq a.toNat 126
    | .land => Nat.beq a.toNat 127
    | .ior => Nat.beq a.toNat 128
    | .lor => Nat.beq a.toNat 129
    | .lxor => Nat.beq a.toNat 131
    | .i2l => Nat.beq a.toNat 133
    | .l2i => Nat.beq a.toNat 136
    | .i2b => Nat.beq a.toNat 145
    | .i2s => Nat.beq a.toNat 147
    | .lcmp => Nat.beq a.toNat 148
    | .ireturn => Nat.beq a.toNat 172
    | .lreturn => Nat.beq a.toNat 173
    | .areturn => Nat.beq a.toNat 176
    | .return_ => Nat.beq a.toNat 177
    | .arraylength => Nat.beq a.toNat 190
    | .iload_n n => Nat.beq a.toNat (26 + n.val)
    | .lload_n n => Nat.beq a.toNat (30 + n.val)
    | .aload_n n => Nat.beq a.toNat (42 + n.val)
    | .istore_n n => Nat.beq a.toNat (59 + n.val)
    | .lstore_n n => Nat.beq a.toNat (63 + n.val)
    | .astore_n n => Nat.beq a.toNat (75 + n.val)
    | .lconst n => Nat.beq a.toNat (9 + n.val)
    | .iconst v => Nat.beq a.toNat (v + 3).toNat && (decide (-1 ≤ v) && decide (v ≤ 5))
    | .bipush v => Nat.beq a.toNat 16 && zq1 r (fun x => decide (Jvm.ClassFile.Reader.signed 8 x = v))
    | .sipush v => Nat.beq a.toNat 17 && zq2 r (fun x y => decide (Jvm.ClassFile.Reader.signed 16 (x * 256 + y) = v))
    | .ldc v => Nat.beq a.toNat 18 && zq1 r (fun x => Nat.beq x v)
    | .iload v => Nat.beq a.toNat 21 && zq1 r (fun x => Nat.beq x v)
    | .lload v => Nat.beq a.toNat 22 && zq1 r (fun x => Nat.beq x v)
    | .aload v => Nat.beq a.toNat 25 && zq1 r (fun x => Nat.beq x v)
    | .istore v => Nat.beq a.toNat 54 && zq1 r (fun x => Nat.beq x v)
    | .lstore v => Nat.beq a.toNat 55 && zq1 r (fun x => Nat.beq x v)
    | .astore v => Nat.beq a.toNat 58 && zq1 r (fun x => Nat.beq x v)
    | .ldc_w v => Nat.beq a.toNat 19 && zq2 r (fun x y => Nat.beq (x * 256 + y) v)
    | .ldc2_w v => Nat.beq a.toNat 20 && zq2 r (fun x y => Nat.beq (x * 256 + y) v)
    | .getfield v => Nat.beq a.toNat 180 && zq2 r (fun x y => Nat.beq (x * 256 + y) v)
    | .putfield v => Nat.beq a.toNat 181 && zq2 r (fun x y => Nat.beq (x * 256 + y) v)
    | .invokevirtual v => Nat.beq a.toNat 182 && zq2 r (fun x y => Nat.beq (x * 256 + y) v)
    | .invokespecial v => Nat.beq a.toNat 183 && zq2 r (fun x y => Nat.beq (x * 256 + y) v)
    | .invokestatic v => Nat.beq a.toNat 184 && zq2 r (fun x y => Nat.beq (x * 256 + y) v)
    | .new v => Nat.beq a.toNat 187 && zq2 r (fun x y => Nat.beq (x * 256 + y) v)
    | .anewarray v => Nat.beq a.toNat 189 && zq2 r (fun x y => Nat.beq (x * 256 + y) v)
    | .goto v => Nat.beq a.toNat 167 && zq2 r (fun x y => decide (Jvm.ClassFile.Reader.signed 16 (x * 256 + y) = v))
    | .ifCond .eq v => Nat.beq a.toNat 153 && zq2 r (fun x y => decide (Jvm.ClassFile.Reader.signed 16 (x * 256 + y) = v))
    | .ifCond .ne v => Nat.beq a.toNat 154 && zq2 r (fun x y => decide (Jvm.ClassFile.Reader.signed 16 (x * 256 + y) = v))
    | .ifCond .lt v => Nat.beq a.toNat 155 && zq2 r (fun x y => decide (Jvm.ClassFile.Reader.signed 16 (x * 256 + y) = v))
    | .ifCond .ge v => Nat.beq a.toNat 156 && zq2 r (fun x y => decide (Jvm.ClassFile.Reader.signed 16 (x * 256 + y) = v))
    | .ifCond .gt v => Nat.beq a.toNat 157 && zq2 r (fun x y => decide (Jvm.ClassFile.Reader.signed 16 (x * 256 + y) = v))
    | .ifCond .le v => Nat.beq a.toNat 158 && zq2 r (fun x y => decide (Jvm.ClassFile.Reader.signed 16 (x * 256 + y) = v))
    | .if_icmp .eq v => Nat.beq a.toNat 159 && zq2 r (fun x y => decide (Jvm.ClassFile.Reader.signed 16 (x * 256 + y) = v))
    | .if_icmp .ne v => Nat.beq a.toNat 160 && zq2 r (fun x y => decide (Jvm.ClassFile.Reader.signed 16 (x * 256 + y) = v))
    | .if_icmp .lt v => Nat.beq a.toNat 161 && zq2 r (fun x y => decide (Jvm.ClassFile.Reader.signed 16 (x * 256 + y) = v))
    | .if_icmp .ge v => Nat.beq a.toNat 162 && zq2 r (fun x y => decide (Jvm.ClassFile.Reader.signed 16 (x * 256 + y) = v))
    | .if_icmp .gt v => Nat.beq a.toNat 163 && zq2 r (fun x y => decide (Jvm.ClassFile.Reader.signed 16 (x * 256 + y) = v))
    | .if_icmp .le v => Nat.beq a.toNat 164 && zq2 r (fun x y => decide (Jvm.ClassFile.Reader.signed 16 (x * 256 + y) = v))
    | .iinc v w => Nat.beq a.toNat 132 && zq2 r (fun x y => Nat.beq x v && decide (Jvm.ClassFile.Reader.signed 8 y = w))
    | _ => false
set_option maxHeartbeats 4000000 in
theorem zQ_ok {b : ByteArray} {pc : Nat} {i : Instr} (h : zQ i (b.data.toList.drop pc) = true) : decode b pc = .ok (i, zLen i) := by
  unfold zQ at h
  split at h
  · cases h
  rename_i a r he
  obtain ⟨hp, ha, hr⟩ := zd_1 he
  subst hr
  split at h
  · exact zr_op (n := 1) hp (ha.trans (Nat.eq_of_beq_eq_true h)) rfl rfl
  · exact zr_op (n := 1) hp (ha.trans (Nat.eq_of_beq_eq_true h)) rfl rfl
  · exact zr_op (n := 1) hp (ha.trans (Nat.eq_of_beq_eq_true h)) rfl rfl
  · exact zr_op (n := 1) hp (ha.trans (Nat.eq_of_beq_eq_true h)) rfl rfl
  · exact zr_op (n := 1) hp (ha.trans (Nat.eq_of_beq_eq_true h)) rfl rfl
  · exact zr_op (n := 1) hp (ha.trans (Nat.eq_of_beq_eq_true h)) rfl rfl
  · exact zr_op (n := 1) hp (ha.trans (Nat.eq_of_beq_eq_true h)) rfl rfl
  · exact zr_op (n := 1) hp (ha.trans (Nat.eq_of_beq_eq_true h)) rfl rfl
  · exact zr_op (n := 1) hp (ha.trans (Nat.eq_of_beq_eq_true h)) rfl rfl
  · exact zr_op (n := 1) hp (ha.trans (Nat.eq_of_beq_eq_true h)) rfl rfl
  · exact zr_op (n := 1) hp (ha.trans (Nat.eq_of_beq_eq_true h)) rfl rfl
  · exact zr_op (n := 1) hp (ha.trans (Nat.eq_of_beq_eq_true h)) rfl rfl
  · exact zr_op (n := 1) hp (ha.trans (Nat.eq_of_beq_eq_true h)) rfl rfl
  · exact zr_op (n := 1) hp (ha.trans (Nat.eq_of_beq_eq_true h)) rfl rfl
  · exact zr_op (n := 1) hp (ha.trans (Nat.eq_of_beq_eq_true h)) rfl rfl
  · exact zr_op (n := 1) hp (ha.trans (Nat.eq_of_beq_eq_true h)) rfl rfl
  · exact zr_op (n := 1) hp (ha.trans (Nat.eq_of_beq_eq_true h)) rfl rfl
  · exact zr_op (n := 1) hp (ha.trans (Nat.eq_of_beq_eq_true h)) rfl rfl
  · exact zr_op (n := 1) hp (ha.trans (Nat.eq_of_beq_eq_true h)) rfl rfl
  · exact zr_op (n := 1) hp (ha.trans (Nat.eq_of_beq_eq_true h)) rfl rfl
  · exact zr_op (n := 1) hp (ha.trans (Nat.eq_of_beq_eq_true h)) rfl rfl
  · exact zr_op (n := 1) hp (ha.trans (Nat.eq_of_beq_eq_true h)) rfl rfl
  · exact zr_op (n := 1) hp (ha.trans (Nat.eq_of_beq_eq_true h)) rfl rfl
  · exact zr_op (n := 1) hp (ha.trans (Nat.eq_of_beq_eq_true h)) rfl rfl
  · exact zr_op (n := 1) hp (ha.trans (Nat.eq_of_beq_eq_true h)) rfl rfl
  · exact zr_op (n := 1) hp (ha.trans (Nat.eq_of_beq_eq_true h)) rfl rfl
  · exact zr_op (n := 1) hp (ha.trans (Nat.eq_of_beq_eq_true h)) rfl rfl
  · exact zr_op (n := 1) hp (ha.trans (Nat.eq_of_beq_eq_true h)) rfl rfl
  · exact zr_op (n := 1) hp (ha.trans (Nat.eq_of_beq_eq_true h)) rfl rfl
  · exact zr_op (n := 1) hp (ha.trans (Nat.eq_of_beq_eq_true h)) rfl rfl
  · exact zr_op (n := 1) hp (ha.trans (Nat.eq_of_beq_eq_true h)) rfl rfl
  · exact zr_op (n := 1) hp (ha.trans (Nat.eq_of_beq_eq_true h)) rfl rfl
  · exact zr_op (n := 1) hp (ha.trans (Nat.eq_of_beq_eq_true h)) rfl rfl
  · exact zr_op (n := 1) hp (ha.trans (Nat.eq_of_beq_eq_true h)) rfl rfl
  · exact zr_op (n := 1) hp (ha.trans (Nat.eq_of_beq_eq_true h)) rfl rfl
  · exact zr_op (n := 1) hp (ha.trans (Nat.eq_of_beq_eq_true h)) rfl rfl
  · exact zr_op (n := 1) hp (ha.trans (Nat.eq_of_beq_eq_true h)) rfl rfl
  · exact zr_op (n := 1) hp (ha.trans (Nat.eq_of_beq_eq_true h)) rfl rfl
  · exact zr_op (n := 1) hp (ha.trans (Nat.eq_of_beq_eq_true h)) rfl rfl
  · exact zr_op (n := 1) hp (ha.trans (Nat.eq_of_beq_eq_true h)) rfl rfl
  · exact zr_op (n := 1) hp (ha.trans (Nat.eq_of_beq_eq_true h)) rfl rfl
  · rename_i n
    match n, h with
    | ⟨0, _⟩, h => exact zr_op (c := 26) hp (ha.trans (Nat.eq_of_beq_eq_true h)) rfl rfl
    | ⟨1, _⟩, h => exact zr_op (c := 27) hp (ha.trans (Nat.eq_of_beq_eq_true h)) rfl rfl
    | ⟨2, _⟩, h => exact zr_op (c := 28) hp (ha.trans (Nat.eq_of_beq_eq_true h)) rfl rfl
    | ⟨3, _⟩, h => exact zr_op (c := 29) hp (ha.trans (Nat.eq_of_beq_eq_true h)) rfl rfl
    | ⟨k + 4, hk⟩, _ => exact absurd hk (by omega)
  · rename_i n
    match n, h with
    | ⟨0, _⟩, h => exact zr_op (c := 30) hp (ha.trans (Nat.eq_of_beq_eq_true h)) rfl rfl
    | ⟨1, _⟩, h => exact zr_op (c := 31) hp (ha.trans (Nat.eq_of_beq_eq_true h)) rfl rfl
    | ⟨2, _⟩, h => exact zr_op (c := 32) hp (ha.trans (Nat.eq_of_beq_eq_true h)) rfl rfl
    | ⟨3, _⟩, h => exact zr_op (c := 33) hp (ha.trans (Nat.eq_of_beq_eq_true h)) rfl rfl
    | ⟨k + 4, hk⟩, _ => exact absurd hk (by omega)
  · rename_i n
    match n, h with
    | ⟨0, _⟩, h => exact zr_op (c := 42) hp (ha.trans (Nat.eq_of_beq_eq_true h)) rfl rfl
    | ⟨1, _⟩, h => exact zr_op (c := 43) hp (ha.trans (Nat.eq_of_beq_eq_true h)) rfl rfl
    | ⟨2, _⟩, h => exact zr_op (c := 44) hp (ha.trans (Nat.eq_of_beq_eq_true h)) rfl rfl
    | ⟨3, _⟩, h => exact zr_op (c := 45) hp (ha.trans (Nat.eq_of_beq_eq_true h)) rfl rfl
    | ⟨k + 4, hk⟩, _ => exact absurd hk (by omega)
  · rename_i n
    match n, h with
    | ⟨0, _⟩, h => exact zr_op (c := 59) hp (ha.trans (Nat.eq_of_beq_eq_true h)) rfl rfl
    | ⟨1, _⟩, h => exact zr_op (c := 60) hp (ha.trans (Nat.eq_of_beq_eq_true h)) rfl rfl
    | ⟨2, _⟩, h => exact zr_op (c := 61) hp (ha.trans (Nat.eq_of_beq_eq_true h)) rfl rfl
    | ⟨3, _⟩, h => exact zr_op (c := 62) hp (ha.trans (Nat.eq_of_beq_eq_true h)) rfl rfl
    | ⟨k + 4, hk⟩, _ => exact absurd hk (by omega)
  · rename_i n
    match n, h with
    | ⟨0, _⟩, h => exact zr_op (c := 63) hp (ha.trans (Nat.eq_of_beq_eq_true h)) rfl rfl
    | ⟨1, _⟩, h => exact zr_op (c := 64) hp (ha.trans (Nat.eq_of_beq_eq_true h)) rfl rfl
    | ⟨2, _⟩, h => exact zr_op (c := 65) hp (ha.trans (Nat.eq_of_beq_eq_true h)) rfl rfl
    | ⟨3, _⟩, h => exact zr_op (c := 66) hp (ha.trans (Nat.eq_of_beq_eq_true h)) rfl rfl
    | ⟨k + 4, hk⟩, _ => exact absurd hk (by omega)
  · rename_i n
    match n, h with
    | ⟨0, _⟩, h => exact zr_op (c := 75) hp (ha.trans (Nat.eq_of_beq_eq_true h)) rfl rfl
    | ⟨1, _⟩, h => exact zr_op (c := 76) hp (ha.trans (Nat.eq_of_beq_eq_true h)) rfl rfl
    | ⟨2, _⟩, h => exact zr_op (c := 77) hp (ha.trans (Nat.eq_of_beq_eq_true h)) rfl rfl
    | ⟨3, _⟩, h => exact zr_op (c := 78) hp (ha.trans (Nat.eq_of_beq_eq_true h)) rfl rfl
    | ⟨k + 4, hk⟩, _ => exact absurd hk (by omega)
  · rename_i n
    match n, h with
    | ⟨0, _⟩, h => exact zr_op (c := 9) hp (ha.trans (Nat.eq_of_beq_eq_true h)) rfl rfl
    | ⟨1, _⟩, h => exact zr_op (c := 10) hp (ha.trans (Nat.eq_of_beq_eq_true h)) rfl rfl
    | ⟨k + 2, hk⟩, _ => exact absurd hk (by omega)
  · rename_i v
    simp only [Bool.and_eq_true, decide_eq_true_eq] at h
    obtain ⟨h, h1, h2⟩ := h
    have hv : v = -1 ∨ v = 0 ∨ v = 1 ∨ v = 2 ∨ v = 3 ∨ v = 4 ∨ v = 5 := by omega
    rcases hv with rfl | rfl | rfl | rfl | rfl | rfl | rfl
    · exact zr_op (c := 2) hp (ha.trans (Nat.eq_of_beq_eq_true h)) rfl rfl
    · exact zr_op (c := 3) hp (ha.trans (Nat.eq_of_beq_eq_true h)) rfl rfl
    · exact zr_op (c := 4) hp (ha.trans (Nat.eq_of_beq_eq_true h)) rfl rfl
    · exact zr_op (c := 5) hp (ha.trans (Nat.eq_of_beq_eq_true h)) rfl rfl
    · exact zr_op (c := 6) hp (ha.trans (Nat.eq_of_beq_eq_true h)) rfl rfl
    · exact zr_op (c := 7) hp (ha.trans (Nat.eq_of_beq_eq_true h)) rfl rfl
    · exact zr_op (c := 8) hp (ha.trans (Nat.eq_of_beq_eq_true h)) rfl rfl
  · simp only [Bool.and_eq_true] at h
    obtain ⟨hq, hz⟩ := zq1_ok h.2
    exact zr_1s hp (ha.trans (Nat.eq_of_beq_eq_true h.1)) hq (of_decide_eq_true hz) rfl rfl
  · simp only [Bool.and_eq_true] at h
    obtain ⟨hq, hs, hz⟩ := zq2_ok h.2
    exact zr_2s hp (ha.trans (Nat.eq_of_beq_eq_true h.1)) hq hs (of_decide_eq_true hz) rfl rfl
  · simp only [Bool.and_eq_true] at h
    obtain ⟨hq, hz⟩ := zq1_ok h.2
    exact zr_1u hp (ha.trans (Nat.eq_of_beq_eq_true h.1)) hq (Nat.eq_of_beq_eq_true hz) rfl rfl
  · simp only [Bool.and_eq_true] at h
    obtain ⟨hq, hz⟩ := zq1_ok h.2
    exact zr_1u hp (ha.trans (Nat.eq_of_beq_eq_true h.1)) hq (Nat.eq_of_beq_eq_true hz) rfl rfl
  · simp only [Bool.and_eq_true] at h
    obtain ⟨hq, hz⟩ := zq1_ok h.2
    exact zr_1u hp (ha.trans (Nat.eq_of_beq_eq_true h.1)) hq (Nat.eq_of_beq_eq_true hz) rfl rfl
  · simp only [Bool.and_eq_true] at h
    obtain ⟨hq, hz⟩ := zq1_ok h.2
    exact zr_1u hp (ha.trans (Nat.eq_of_beq_eq_true h.1)) hq (Nat.eq_of_beq_eq_true hz) rfl rfl
  · simp only [Bool.and_eq_true] at h
    obtain ⟨hq, hz⟩ := zq1_ok h.2
    exact zr_1u hp (ha.trans (Nat.eq_of_beq_eq_true h.1)) hq (Nat.eq_of_beq_eq_true hz) rfl rfl
  · simp only [Bool.and_eq_true] at h
    obtain ⟨hq, hz⟩ := zq1_ok h.2
    exact zr_1u hp (ha.trans (Nat.eq_of_beq_eq_true h.1)) hq (Nat.eq_of_beq_eq_true hz) rfl rfl
  · simp only [Bool.and_eq_true] at h
    obtain ⟨hq, hz⟩ := zq1_ok h.2
    exact zr_1u hp (ha.trans (Nat.eq_of_beq_eq_true h.1)) hq (Nat.eq_of_beq_eq_true hz) rfl rfl
  · simp only [Bool.and_eq_true] at h
    obtain ⟨hq, hs, hz⟩ := zq2_ok h.2
    exact zr_2u hp (ha.trans (Nat.eq_of_beq_eq_true h.1)) hq hs (Nat.eq_of_beq_eq_true hz) rfl rfl
  · simp only [Bool.and_eq_true] at h
    obtain ⟨hq, hs, hz⟩ := zq2_ok h.2
    exact zr_2u hp (ha.trans (Nat.eq_of_beq_eq_true h.1)) hq hs (Nat.eq_of_beq_eq_true hz) rfl rfl
  · simp only [Bool.and_eq_true] at h
    obtain ⟨hq, hs, hz⟩ := zq2_ok h.2
    exact zr_2u hp (ha.trans (Nat.eq_of_beq_eq_true h.1)) hq hs (Nat.eq_of_beq_eq_true hz) rfl rfl
  · simp only [Bool.and_eq_true] at h
    obtain ⟨hq, hs, hz⟩ := zq2_ok h.2
    exact zr_2u hp (ha.trans (Nat.eq_of_beq_eq_true h.1)) hq hs (Nat.eq_of_beq_eq_true hz) rfl rfl
  · simp only [Bool.and_eq_true] at h
    obtain ⟨hq, hs, hz⟩ := zq2_ok h.2
    exact zr_2u hp (ha.trans (Nat.eq_of_beq_eq_true h.1)) hq hs (Nat.eq_of_beq_eq_true hz) rfl rfl
  · simp only [Bool.and_eq_true] at h
    obtain ⟨hq, hs, hz⟩ := zq2_ok h.2
    exact zr_2u hp (ha.trans (Nat.eq_of_beq_eq_true h.1)) hq hs (Nat.eq_of_beq_eq_true hz) rfl rfl
  · simp only [Bool.and_eq_true] at h
    obtain ⟨hq, hs, hz⟩ := zq2_ok h.2
    exact zr_2u hp (ha.trans (Nat.eq_of_beq_eq_true h.1)) hq hs (Nat.eq_of_beq_eq_true hz) rfl rfl
  · simp only [Bool.and_eq_true] at h
    obtain ⟨hq, hs, hz⟩ := zq2_ok h.2
    exact zr_2u hp (ha.trans (Nat.eq_of_beq_eq_true h.1)) hq hs (Nat.eq_of_beq_eq_true hz) rfl rfl
  · simp only [Bool.and_eq_true] at h
    obtain ⟨hq, hs, hz⟩ := zq2_ok h.2
    exact zr_2u hp (ha.trans (Nat.eq_of_beq_eq_true h.1)) hq hs (Nat.eq_of_beq_eq_true hz) rfl rfl
  · simp only [Bool.and_eq_true] at h
    obtain ⟨hq, hs, hz⟩ := zq2_ok h.2
    exact zr_2s hp (ha.trans (Nat.eq_of_beq_eq_true h.1)) hq hs (of_decide_eq_true hz) rfl rfl
  · simp only [Bool.and_eq_true] at h
    obtain ⟨hq, hs, hz⟩ := zq2_ok h.2
    exact zr_2s hp (ha.trans (Nat.eq_of_beq_eq_true h.1)) hq hs (of_decide_eq_true hz) rfl rfl
  · simp only [Bool.and_eq_true] at h
    obtain ⟨hq, hs, hz⟩ := zq2_ok h.2
    exact zr_2s hp (ha.trans (Nat.eq_of_beq_eq_true h.1)) hq hs (of_decide_eq_true hz) rfl rfl
  · simp only [Bool.and_eq_true] at h
    obtain ⟨hq, hs, hz⟩ := zq2_ok h.2
    exact zr_2s hp (ha.trans (Nat.eq_of_beq_eq_true h.1)) hq hs (of_decide_eq_true hz) rfl rfl
  · simp only [Bool.and_eq_true] at h
    obtain ⟨hq, hs, hz⟩ := zq2_ok h.2
    exact zr_2s hp (ha.trans (Nat.eq_of_beq_eq_true h.1)) hq hs (of_decide_eq_true hz) rfl rfl
  · simp only [Bool.and_eq_true] at h
    obtain ⟨hq, hs, hz⟩ := zq2_ok h.2
    exact zr_2s hp (ha.trans (Nat.eq_of_beq_eq_true h.1)) hq hs (of_decide_eq_true hz) rfl rfl
  · simp only [Bool.and_eq_true] at h
    obtain ⟨hq, hs, hz⟩ := zq2_ok h.2
    exact zr_2s hp (ha.trans (Nat.eq_of_beq_eq_true h.1)) hq hs (of_decide_eq_true hz) rfl rfl
  · simp only [Bool.and_eq_true] at h
    obtain ⟨hq, hs, hz⟩ := zq2_ok h.2
    exact zr_2s hp (ha.trans (Nat.eq_of_beq_eq_true h.1)) hq hs (of_decide_eq_true hz) rfl rfl
  · simp only [Bool.and_eq_true] at h
    obtain ⟨hq, hs, hz⟩ := zq2_ok h.2
    exact zr_2s hp (ha.trans (Nat.eq_of_beq_eq_true h.1)) hq hs (of_decide_eq_true hz) rfl rfl
  · simp only [Bool.and_eq_true] at h
    obtain ⟨hq, hs, hz⟩ := zq2_ok h.2
    exact zr_2s hp (ha.trans (Nat.eq_of_beq_eq_true h.1)) hq hs (of_decide_eq_true hz) rfl rfl
  · simp only [Bool.and_eq_true] at h
    obtain ⟨hq, hs, hz⟩ := zq2_ok h.2
    exact zr_2s hp (ha.trans (Nat.eq_of_beq_eq_true h.1)) hq hs (of_decide_eq_true hz) rfl rfl
  · simp only [Bool.and_eq_true] at h
    obtain ⟨hq, hs, hz⟩ := zq2_ok h.2
    exact zr_2s hp (ha.trans (Nat.eq_of_beq_eq_true h.1)) hq hs (of_decide_eq_true hz) rfl rfl
  · simp only [Bool.and_eq_true] at h
    obtain ⟨hq, hs, hz⟩ := zq2_ok h.2
    exact zr_2s hp (ha.trans (Nat.eq_of_beq_eq_true h.1)) hq hs (of_decide_eq_true hz) rfl rfl
  · simp only [Bool.and_eq_true] at h
    obtain ⟨hq, hs, hz⟩ := zq2_ok h.2
    simp only [Bool.and_eq_true] at hz
    exact zr_inc hp (ha.trans (Nat.eq_of_beq_eq_true h.1)) hq hs (Nat.eq_of_beq_eq_true hz.1) (of_decide_eq_true hz.2) rfl rfl
  · cases h
/-- the check along the bytes -/
def zChkF (o : Nat) (b : ByteArray) : Nat → List UInt8 → List (Option zE) → Bool
  | _, _, [] => true
  | _, [], _ :: _ => false
  | pc, _ :: r, none :: l => zChkF o b (pc + 1) r l
  | pc, a :: r, some e :: l => ((zQ e.1 (a :: r) && xbrl e.1 pc e.2.1 (zLen e.1)) || zDec b pc e) && (zLink o e && zChkF o b (pc + 1) r l)
theorem zChkF_ok {o : Nat} {b : ByteArray} : ∀ {l : List (Option zE)} {pc : Nat}, zChkF o b pc (b.data.toList.drop pc) l = true → zChk o b pc l = true := by
  intro l
  induction l with
  | nil => intro pc _; rfl
  | cons x l ih =>
    intro pc h
    cases hd : b.data.toList.drop pc with
    | nil => rw [hd] at h; cases x <;> simp [zChkF] at h
    | cons a r =>
      obtain ⟨hp, -, hr⟩ := zd_1 hd
      rw [hd] at h
      cases x with
      | none =>
        simp only [zChkF] at h
        simp only [zChk]
        exact ih (by rw [hr]; exact h)
      | some e =>
        simp only [zChkF, Bool.and_eq_true, Bool.or_eq_true] at h
        simp only [zChk, Bool.and_eq_true]
        refine ⟨?_, h.2.1, ih (by rw [hr]; exact h.2.2)⟩
        rcases h.1 with q | q
        · have hdq := zQ_ok (b := b) (pc := pc) (i := e.1) (by rw [hd]; exact q.1)
          unfold zDec
          rw [hdq]
          simp only [decide_true, Bool.true_and, Bool.and_eq_true, Bool.or_eq_true]
          exact ⟨Or.inr (beq_self_eq_true _), q.2⟩
        · exact q

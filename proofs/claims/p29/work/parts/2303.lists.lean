theorem rzc_step {α : Type} (p : α → Bool) (n : Nat) (L : List α) (h1 : List.all (List.take n L) p = true) (h2 : List.all (List.drop n L) p = true) : List.all L p = true := by
  have h : List.all (List.take n L ++ List.drop n L) p = true := by
    rw [List.all_append, h1, h2]
    first | done | rfl
  rwa [List.take_append_drop] at h
theorem rzc_codes : List.all ((Jvm.D.headSpec (Jvm.Cond.code x code maxLocals ret :: tables_1) room_1).pre.codes ++ (Jvm.D.headSpec (Jvm.Cond.code x code maxLocals ret :: tables_1) room_1).post.codes) (fun y => (launch0.file? y.1.cls).any fun f => f.hasCode y.1 y.2.1 y.2.2.1 y.2.2.2) = true := (rzc_step _ 40 _ rzc_codes_0 (rzc_step _ 40 _ rzc_codes_1 rzc_codes_2))
theorem rzc_links : List.all ((Jvm.D.headSpec (Jvm.Cond.code x code maxLocals ret :: tables_1) room_1).pre.links ++ (Jvm.D.headSpec (Jvm.Cond.code x code maxLocals ret :: tables_1) room_1).post.links) (fun y => (launch0.file? y.1).any fun f => f.names y.2.1 y.2.2) = true := (rzc_step _ 80 _ rzc_links_0 (rzc_step _ 80 _ rzc_links_1 rzc_links_2))
theorem rzc_statics : List.all ((Jvm.D.headSpec (Jvm.Cond.code x code maxLocals ret :: tables_1) room_1).pre.statics ++ (Jvm.D.headSpec (Jvm.Cond.code x code maxLocals ret :: tables_1) room_1).post.statics) (fun y => (launch0.file? y.cls).any fun f => f.hasStatic y) = true := rzc_statics_0
theorem rzc_shapes : List.all ((Jvm.D.headSpec (Jvm.Cond.code x code maxLocals ret :: tables_1) room_1).pre.shapes ++ (Jvm.D.headSpec (Jvm.Cond.code x code maxLocals ret :: tables_1) room_1).post.shapes) (fun y => launch0.says y) = true := (rzc_step _ 80 _ rzc_shapes_0 (rzc_step _ 80 _ rzc_shapes_1 (rzc_step _ 80 _ rzc_shapes_2 rzc_shapes_3)))
theorem rzc_held : List.all tables_1 (fun c => Jvm.D.heldByFiles launch0 c) = true := (rzc_step _ 120 _ rzc_held_0 (rzc_step _ 120 _ rzc_held_1 (rzc_step _ 120 _ rzc_held_2 (rzc_step _ 120 _ rzc_held_3 rzc_held_4))))
theorem rz_lists_1 : ListsClaimed_1 := ⟨rzc_sound, rzc_file, ⟨fun y hy => List.all_eq_true.mp rzc_codes y hy, fun y hy => List.all_eq_true.mp rzc_links y hy, fun y hy => List.all_eq_true.mp rzc_statics y hy, fun y hy => List.all_eq_true.mp rzc_shapes y hy⟩, rzc_held⟩


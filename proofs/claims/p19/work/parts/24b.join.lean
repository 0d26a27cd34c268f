section GJX
variable {p : Program} {l : Launch} {e : Env} {R : Room} {s : State} {m : MethodId} {args : Array Value} {below : List Frame} {meth : Method} {c : Code} {H : Heap} {locs : List Loc} {cells slots : Nat} {Q : State → Prop} {F : JFrame}
/-- what several branches come to is proved once -/
theorem gj_x {F' : JFrame} (h : W p l e R s m args below meth c H locs cells slots Q F' → W p l e R s m args below meth c H locs cells slots Q F) (g : W p l e R s m args below meth c H locs cells slots Q F') : W p l e R s m args below meth c H locs cells slots Q F := h g
end GJX

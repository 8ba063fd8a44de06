theorem ww_45 : (Jvm.Cond.laysFinal "PakeDesk$User" "PakeDesk$User" "number" "I") ∈ gt_tbl := gt_m (List.mem_append_right _ (List.mem_append_left _ (List.mem_of_getElem? (i := 45) (by decide +kernel)))) (by decide)
theorem ww_47 : (Jvm.Cond.laysFinal "PakeDesk$User" "PakeDesk$User" "seed" "I") ∈ gt_tbl := gt_m (List.mem_append_right _ (List.mem_append_left _ (List.mem_of_getElem? (i := 47) (by decide +kernel)))) (by decide)
theorem ww_49 : (Jvm.Cond.lays "PakeDesk$User" "PakeDesk$User" "way" "I") ∈ gt_tbl := gt_m (List.mem_append_right _ (List.mem_append_left _ (List.mem_of_getElem? (i := 49) (by decide +kernel)))) (by decide)
theorem ww_51 : (Jvm.Cond.lays "PakeDesk$User" "PakeDesk$User" "word" "J") ∈ gt_tbl := gt_m (List.mem_append_right _ (List.mem_append_left _ (List.mem_of_getElem? (i := 51) (by decide +kernel)))) (by decide)
theorem ww_53 : (Jvm.Cond.lays "PakeDesk$User" "PakeDesk$User" "salt" "J") ∈ gt_tbl := gt_m (List.mem_append_right _ (List.mem_append_left _ (List.mem_of_getElem? (i := 53) (by decide +kernel)))) (by decide)
theorem ww_55 : (Jvm.Cond.lays "PakeDesk$User" "PakeDesk$User" "verifier" "J") ∈ gt_tbl := gt_m (List.mem_append_right _ (List.mem_append_left _ (List.mem_of_getElem? (i := 55) (by decide +kernel)))) (by decide)
theorem ww_57 : (Jvm.Cond.lays "PakeDesk$User" "PakeDesk$User" "failures" "I") ∈ gt_tbl := gt_m (List.mem_append_right _ (List.mem_append_left _ (List.mem_of_getElem? (i := 57) (by decide +kernel)))) (by decide)
theorem ww_59 : (Jvm.Cond.lays "PakeDesk$User" "PakeDesk$User" "latestFailure" "I") ∈ gt_tbl := gt_m (List.mem_append_right _ (List.mem_append_left _ (List.mem_of_getElem? (i := 59) (by decide +kernel)))) (by decide)
theorem ww_61 : (Jvm.Cond.lays "PakeDesk$User" "PakeDesk$User" "secondLatestFailure" "I") ∈ gt_tbl := gt_m (List.mem_append_right _ (List.mem_append_left _ (List.mem_of_getElem? (i := 61) (by decide +kernel)))) (by decide)
theorem ww_63 : (Jvm.Cond.lays "PakeDesk$User" "PakeDesk$User" "thirdLatestFailure" "I") ∈ gt_tbl := gt_m (List.mem_append_right _ (List.mem_append_left _ (List.mem_of_getElem? (i := 63) (by decide +kernel)))) (by decide)
theorem ww_72 : (Jvm.Cond.laysFinal "PakeDesk" "PakeDesk" "users" "[LPakeDesk$User;") ∈ gt_tbl := gt_m (List.mem_append_right _ (List.mem_append_left _ (List.mem_of_getElem? (i := 72) (by decide +kernel)))) (by decide)
theorem ww_74 : (Jvm.Cond.laysFinal "PakeDesk" "PakeDesk" "opened" "[LPakeDesk$Session;") ∈ gt_tbl := gt_m (List.mem_append_right _ (List.mem_append_left _ (List.mem_of_getElem? (i := 74) (by decide +kernel)))) (by decide)
theorem ww_76 : (Jvm.Cond.lays "PakeDesk" "PakeDesk" "openedCount" "I") ∈ gt_tbl := gt_m (List.mem_append_right _ (List.mem_append_left _ (List.mem_of_getElem? (i := 76) (by decide +kernel)))) (by decide)
theorem ww_78 : (Jvm.Cond.lays "PakeDesk" "PakeDesk" "clock" "I") ∈ gt_tbl := gt_m (List.mem_append_right _ (List.mem_append_left _ (List.mem_of_getElem? (i := 78) (by decide +kernel)))) (by decide)
theorem ww_345 : (Jvm.Cond.laysFinal "PakeDesk$Client" "PakeDesk$Client" "password" "J") ∈ gt_tbl := gt_m (List.mem_append_right _ (List.mem_append_right _ (List.mem_append_left _ (List.mem_of_getElem? (i := 105) (by decide +kernel))))) (by decide)
theorem ww_347 : (Jvm.Cond.laysFinal "PakeDesk$Client" "PakeDesk$Client" "word" "J") ∈ gt_tbl := gt_m (List.mem_append_right _ (List.mem_append_right _ (List.mem_append_left _ (List.mem_of_getElem? (i := 107) (by decide +kernel))))) (by decide)
theorem ww_349 : (Jvm.Cond.laysFinal "PakeDesk$Client" "PakeDesk$Session" "user" "LPakeDesk$User;") ∈ gt_tbl := gt_m (List.mem_append_right _ (List.mem_append_right _ (List.mem_append_left _ (List.mem_of_getElem? (i := 109) (by decide +kernel))))) (by decide)
theorem ww_351 : (Jvm.Cond.laysFinal "PakeDesk$Client" "PakeDesk$Session" "way" "I") ∈ gt_tbl := gt_m (List.mem_append_right _ (List.mem_append_right _ (List.mem_append_left _ (List.mem_of_getElem? (i := 111) (by decide +kernel))))) (by decide)
theorem ww_353 : (Jvm.Cond.laysFinal "PakeDesk$Client" "PakeDesk$Session" "secret" "J") ∈ gt_tbl := gt_m (List.mem_append_right _ (List.mem_append_right _ (List.mem_append_left _ (List.mem_of_getElem? (i := 113) (by decide +kernel))))) (by decide)
theorem ww_355 : (Jvm.Cond.laysFinal "PakeDesk$Client" "PakeDesk$Session" "began" "I") ∈ gt_tbl := gt_m (List.mem_append_right _ (List.mem_append_right _ (List.mem_append_left _ (List.mem_of_getElem? (i := 115) (by decide +kernel))))) (by decide)
theorem ww_357 : (Jvm.Cond.lays "PakeDesk$Client" "PakeDesk$Session" "state" "I") ∈ gt_tbl := gt_m (List.mem_append_right _ (List.mem_append_right _ (List.mem_append_left _ (List.mem_of_getElem? (i := 117) (by decide +kernel))))) (by decide)
theorem ww_359 : (Jvm.Cond.lays "PakeDesk$Client" "PakeDesk$Session" "x" "J") ∈ gt_tbl := gt_m (List.mem_append_right _ (List.mem_append_right _ (List.mem_append_left _ (List.mem_of_getElem? (i := 119) (by decide +kernel))))) (by decide)
theorem ww_361 : (Jvm.Cond.lays "PakeDesk$Client" "PakeDesk$Session" "y" "J") ∈ gt_tbl := gt_m (List.mem_append_right _ (List.mem_append_right _ (List.mem_append_left _ (List.mem_of_getElem? (i := 121) (by decide +kernel))))) (by decide)
theorem ww_363 : (Jvm.Cond.lays "PakeDesk$Client" "PakeDesk$Session" "key" "J") ∈ gt_tbl := gt_m (List.mem_append_right _ (List.mem_append_right _ (List.mem_append_left _ (List.mem_of_getElem? (i := 123) (by decide +kernel))))) (by decide)
theorem ww_365 : (Jvm.Cond.lays "PakeDesk$Client" "PakeDesk$Session" "confirmationOfClient" "J") ∈ gt_tbl := gt_m (List.mem_append_right _ (List.mem_append_right _ (List.mem_append_left _ (List.mem_of_getElem? (i := 125) (by decide +kernel))))) (by decide)
theorem ww_367 : (Jvm.Cond.lays "PakeDesk$Client" "PakeDesk$Session" "confirmationOfServer" "J") ∈ gt_tbl := gt_m (List.mem_append_right _ (List.mem_append_right _ (List.mem_append_left _ (List.mem_of_getElem? (i := 127) (by decide +kernel))))) (by decide)
theorem ww_369 : (Jvm.Cond.lays "PakeDesk$Client" "PakeDesk$Session" "message" "J") ∈ gt_tbl := gt_m (List.mem_append_right _ (List.mem_append_right _ (List.mem_append_left _ (List.mem_of_getElem? (i := 129) (by decide +kernel))))) (by decide)
theorem ww_401 : (Jvm.Cond.laysFinal "PakeDesk$Server" "PakeDesk$Server" "held" "J") ∈ gt_tbl := gt_m (List.mem_append_right _ (List.mem_append_right _ (List.mem_append_left _ (List.mem_of_getElem? (i := 161) (by decide +kernel))))) (by decide)
theorem ww_403 : (Jvm.Cond.laysFinal "PakeDesk$Server" "PakeDesk$Session" "user" "LPakeDesk$User;") ∈ gt_tbl := gt_m (List.mem_append_right _ (List.mem_append_right _ (List.mem_append_left _ (List.mem_of_getElem? (i := 163) (by decide +kernel))))) (by decide)
theorem ww_404 : (Jvm.Cond.laysFinal "PakeDesk$Server" "PakeDesk$Session" "way" "I") ∈ gt_tbl := gt_m (List.mem_append_right _ (List.mem_append_right _ (List.mem_append_left _ (List.mem_of_getElem? (i := 164) (by decide +kernel))))) (by decide)
theorem ww_405 : (Jvm.Cond.laysFinal "PakeDesk$Server" "PakeDesk$Session" "secret" "J") ∈ gt_tbl := gt_m (List.mem_append_right _ (List.mem_append_right _ (List.mem_append_left _ (List.mem_of_getElem? (i := 165) (by decide +kernel))))) (by decide)
theorem ww_406 : (Jvm.Cond.laysFinal "PakeDesk$Server" "PakeDesk$Session" "began" "I") ∈ gt_tbl := gt_m (List.mem_append_right _ (List.mem_append_right _ (List.mem_append_left _ (List.mem_of_getElem? (i := 166) (by decide +kernel))))) (by decide)
theorem ww_407 : (Jvm.Cond.lays "PakeDesk$Server" "PakeDesk$Session" "state" "I") ∈ gt_tbl := gt_m (List.mem_append_right _ (List.mem_append_right _ (List.mem_append_left _ (List.mem_of_getElem? (i := 167) (by decide +kernel))))) (by decide)
theorem ww_408 : (Jvm.Cond.lays "PakeDesk$Server" "PakeDesk$Session" "x" "J") ∈ gt_tbl := gt_m (List.mem_append_right _ (List.mem_append_right _ (List.mem_append_left _ (List.mem_of_getElem? (i := 168) (by decide +kernel))))) (by decide)
theorem ww_409 : (Jvm.Cond.lays "PakeDesk$Server" "PakeDesk$Session" "y" "J") ∈ gt_tbl := gt_m (List.mem_append_right _ (List.mem_append_right _ (List.mem_append_left _ (List.mem_of_getElem? (i := 169) (by decide +kernel))))) (by decide)
theorem ww_410 : (Jvm.Cond.lays "PakeDesk$Server" "PakeDesk$Session" "key" "J") ∈ gt_tbl := gt_m (List.mem_append_right _ (List.mem_append_right _ (List.mem_append_left _ (List.mem_of_getElem? (i := 170) (by decide +kernel))))) (by decide)
theorem ww_411 : (Jvm.Cond.lays "PakeDesk$Server" "PakeDesk$Session" "confirmationOfClient" "J") ∈ gt_tbl := gt_m (List.mem_append_right _ (List.mem_append_right _ (List.mem_append_left _ (List.mem_of_getElem? (i := 171) (by decide +kernel))))) (by decide)
theorem ww_412 : (Jvm.Cond.lays "PakeDesk$Server" "PakeDesk$Session" "confirmationOfServer" "J") ∈ gt_tbl := gt_m (List.mem_append_right _ (List.mem_append_right _ (List.mem_append_left _ (List.mem_of_getElem? (i := 172) (by decide +kernel))))) (by decide)
theorem ww_413 : (Jvm.Cond.lays "PakeDesk$Server" "PakeDesk$Session" "message" "J") ∈ gt_tbl := gt_m (List.mem_append_right _ (List.mem_append_right _ (List.mem_append_left _ (List.mem_of_getElem? (i := 173) (by decide +kernel))))) (by decide)
theorem ww_665 : (Jvm.Cond.lays "PakeDeskModel" "PakeDeskModel" "thrown" "I") ∈ gt_tbl := gt_m (List.mem_append_right _ (List.mem_append_right _ (List.mem_append_right _ (List.mem_append_left _ (List.mem_of_getElem? (i := 185) (by decide +kernel)))))) (by decide)
theorem ww_667 : (Jvm.Cond.laysFinal "PakeDeskModel" "PakeDeskModel" "seed" "J") ∈ gt_tbl := gt_m (List.mem_append_right _ (List.mem_append_right _ (List.mem_append_right _ (List.mem_append_left _ (List.mem_of_getElem? (i := 187) (by decide +kernel)))))) (by decide)
theorem ww_669 : (Jvm.Cond.lays "PakeDeskModel" "PakeDeskModel" "now" "I") ∈ gt_tbl := gt_m (List.mem_append_right _ (List.mem_append_right _ (List.mem_append_right _ (List.mem_append_left _ (List.mem_of_getElem? (i := 189) (by decide +kernel)))))) (by decide)
theorem ww_671 : (Jvm.Cond.lays "PakeDeskModel" "PakeDeskModel" "h" "J") ∈ gt_tbl := gt_m (List.mem_append_right _ (List.mem_append_right _ (List.mem_append_right _ (List.mem_append_left _ (List.mem_of_getElem? (i := 191) (by decide +kernel)))))) (by decide)
theorem ww_673 : (Jvm.Cond.laysFinal "PakeDeskModel" "PakeDeskModel" "ways" "[I") ∈ gt_tbl := gt_m (List.mem_append_right _ (List.mem_append_right _ (List.mem_append_right _ (List.mem_append_left _ (List.mem_of_getElem? (i := 193) (by decide +kernel)))))) (by decide)
theorem ww_675 : (Jvm.Cond.laysFinal "PakeDeskModel" "PakeDeskModel" "words" "[J") ∈ gt_tbl := gt_m (List.mem_append_right _ (List.mem_append_right _ (List.mem_append_right _ (List.mem_append_left _ (List.mem_of_getElem? (i := 195) (by decide +kernel)))))) (by decide)
theorem ww_677 : (Jvm.Cond.laysFinal "PakeDeskModel" "PakeDeskModel" "salts" "[J") ∈ gt_tbl := gt_m (List.mem_append_right _ (List.mem_append_right _ (List.mem_append_right _ (List.mem_append_left _ (List.mem_of_getElem? (i := 197) (by decide +kernel)))))) (by decide)
theorem ww_679 : (Jvm.Cond.laysFinal "PakeDeskModel" "PakeDeskModel" "verifiers" "[J") ∈ gt_tbl := gt_m (List.mem_append_right _ (List.mem_append_right _ (List.mem_append_right _ (List.mem_append_left _ (List.mem_of_getElem? (i := 199) (by decide +kernel)))))) (by decide)
theorem ww_681 : (Jvm.Cond.laysFinal "PakeDeskModel" "PakeDeskModel" "fails" "[I") ∈ gt_tbl := gt_m (List.mem_append_right _ (List.mem_append_right _ (List.mem_append_right _ (List.mem_append_left _ (List.mem_of_getElem? (i := 201) (by decide +kernel)))))) (by decide)
theorem ww_683 : (Jvm.Cond.laysFinal "PakeDeskModel" "PakeDeskModel" "latest" "[I") ∈ gt_tbl := gt_m (List.mem_append_right _ (List.mem_append_right _ (List.mem_append_right _ (List.mem_append_left _ (List.mem_of_getElem? (i := 203) (by decide +kernel)))))) (by decide)
theorem ww_685 : (Jvm.Cond.laysFinal "PakeDeskModel" "PakeDeskModel" "second" "[I") ∈ gt_tbl := gt_m (List.mem_append_right _ (List.mem_append_right _ (List.mem_append_right _ (List.mem_append_left _ (List.mem_of_getElem? (i := 205) (by decide +kernel)))))) (by decide)
theorem ww_687 : (Jvm.Cond.laysFinal "PakeDeskModel" "PakeDeskModel" "third" "[I") ∈ gt_tbl := gt_m (List.mem_append_right _ (List.mem_append_right _ (List.mem_append_right _ (List.mem_append_left _ (List.mem_of_getElem? (i := 207) (by decide +kernel)))))) (by decide)
theorem ww_689 : (Jvm.Cond.lays "PakeDeskModel" "PakeDeskModel" "sessions" "I") ∈ gt_tbl := gt_m (List.mem_append_right _ (List.mem_append_right _ (List.mem_append_right _ (List.mem_append_left _ (List.mem_of_getElem? (i := 209) (by decide +kernel)))))) (by decide)
theorem ww_691 : (Jvm.Cond.laysFinal "PakeDeskModel" "PakeDeskModel" "serves" "[Z") ∈ gt_tbl := gt_m (List.mem_append_right _ (List.mem_append_right _ (List.mem_append_right _ (List.mem_append_left _ (List.mem_of_getElem? (i := 211) (by decide +kernel)))))) (by decide)
theorem ww_693 : (Jvm.Cond.laysFinal "PakeDeskModel" "PakeDeskModel" "wayOf" "[I") ∈ gt_tbl := gt_m (List.mem_append_right _ (List.mem_append_right _ (List.mem_append_right _ (List.mem_append_left _ (List.mem_of_getElem? (i := 213) (by decide +kernel)))))) (by decide)
theorem ww_695 : (Jvm.Cond.laysFinal "PakeDeskModel" "PakeDeskModel" "userOf" "[I") ∈ gt_tbl := gt_m (List.mem_append_right _ (List.mem_append_right _ (List.mem_append_right _ (List.mem_append_left _ (List.mem_of_getElem? (i := 215) (by decide +kernel)))))) (by decide)
theorem ww_697 : (Jvm.Cond.laysFinal "PakeDeskModel" "PakeDeskModel" "states" "[I") ∈ gt_tbl := gt_m (List.mem_append_right _ (List.mem_append_right _ (List.mem_append_right _ (List.mem_append_left _ (List.mem_of_getElem? (i := 217) (by decide +kernel)))))) (by decide)
theorem ww_699 : (Jvm.Cond.laysFinal "PakeDeskModel" "PakeDeskModel" "began" "[I") ∈ gt_tbl := gt_m (List.mem_append_right _ (List.mem_append_right _ (List.mem_append_right _ (List.mem_append_left _ (List.mem_of_getElem? (i := 219) (by decide +kernel)))))) (by decide)
theorem ww_701 : (Jvm.Cond.laysFinal "PakeDeskModel" "PakeDeskModel" "secrets" "[J") ∈ gt_tbl := gt_m (List.mem_append_right _ (List.mem_append_right _ (List.mem_append_right _ (List.mem_append_left _ (List.mem_of_getElem? (i := 221) (by decide +kernel)))))) (by decide)
theorem ww_703 : (Jvm.Cond.laysFinal "PakeDeskModel" "PakeDeskModel" "passwords" "[J") ∈ gt_tbl := gt_m (List.mem_append_right _ (List.mem_append_right _ (List.mem_append_right _ (List.mem_append_left _ (List.mem_of_getElem? (i := 223) (by decide +kernel)))))) (by decide)
theorem ww_705 : (Jvm.Cond.laysFinal "PakeDeskModel" "PakeDeskModel" "recordOf" "[J") ∈ gt_tbl := gt_m (List.mem_append_right _ (List.mem_append_right _ (List.mem_append_right _ (List.mem_append_left _ (List.mem_of_getElem? (i := 225) (by decide +kernel)))))) (by decide)
theorem ww_707 : (Jvm.Cond.laysFinal "PakeDeskModel" "PakeDeskModel" "firstX" "[J") ∈ gt_tbl := gt_m (List.mem_append_right _ (List.mem_append_right _ (List.mem_append_right _ (List.mem_append_left _ (List.mem_of_getElem? (i := 227) (by decide +kernel)))))) (by decide)
theorem ww_709 : (Jvm.Cond.laysFinal "PakeDeskModel" "PakeDeskModel" "firstY" "[J") ∈ gt_tbl := gt_m (List.mem_append_right _ (List.mem_append_right _ (List.mem_append_right _ (List.mem_append_left _ (List.mem_of_getElem? (i := 229) (by decide +kernel)))))) (by decide)
theorem ww_711 : (Jvm.Cond.laysFinal "PakeDeskModel" "PakeDeskModel" "keys" "[J") ∈ gt_tbl := gt_m (List.mem_append_right _ (List.mem_append_right _ (List.mem_append_right _ (List.mem_append_left _ (List.mem_of_getElem? (i := 231) (by decide +kernel)))))) (by decide)
theorem ww_713 : (Jvm.Cond.laysFinal "PakeDeskModel" "PakeDeskModel" "messages" "[J") ∈ gt_tbl := gt_m (List.mem_append_right _ (List.mem_append_right _ (List.mem_append_right _ (List.mem_append_left _ (List.mem_of_getElem? (i := 233) (by decide +kernel)))))) (by decide)
theorem uw_D : ∀ w ∈ u_ws cr_D cf_D 4, w ∈ gt_tbl := by
  intro w hw
  obtain ⟨k, hk, rfl⟩ := List.mem_map.mp hw
  have hk := List.mem_range.mp hk
  match k, hk with
  | 0, _ => exact ww_72
  | 1, _ => exact ww_74
  | 2, _ => exact ww_76
  | 3, _ => exact ww_78
theorem uw_U : ∀ w ∈ u_ws cr_U cf_U 10, w ∈ gt_tbl := by
  intro w hw
  obtain ⟨k, hk, rfl⟩ := List.mem_map.mp hw
  have hk := List.mem_range.mp hk
  match k, hk with
  | 0, _ => exact ww_45
  | 1, _ => exact ww_47
  | 2, _ => exact ww_49
  | 3, _ => exact ww_51
  | 4, _ => exact ww_53
  | 5, _ => exact ww_55
  | 6, _ => exact ww_57
  | 7, _ => exact ww_59
  | 8, _ => exact ww_61
  | 9, _ => exact ww_63
theorem uw_C : ∀ w ∈ u_ws cr_C cf_C 13, w ∈ gt_tbl := by
  intro w hw
  obtain ⟨k, hk, rfl⟩ := List.mem_map.mp hw
  have hk := List.mem_range.mp hk
  match k, hk with
  | 0, _ => exact ww_349
  | 1, _ => exact ww_351
  | 2, _ => exact ww_353
  | 3, _ => exact ww_355
  | 4, _ => exact ww_357
  | 5, _ => exact ww_359
  | 6, _ => exact ww_361
  | 7, _ => exact ww_363
  | 8, _ => exact ww_365
  | 9, _ => exact ww_367
  | 10, _ => exact ww_369
  | 11, _ => exact ww_345
  | 12, _ => exact ww_347
theorem uw_V : ∀ w ∈ u_ws cr_V cf_V 12, w ∈ gt_tbl := by
  intro w hw
  obtain ⟨k, hk, rfl⟩ := List.mem_map.mp hw
  have hk := List.mem_range.mp hk
  match k, hk with
  | 0, _ => exact ww_403
  | 1, _ => exact ww_404
  | 2, _ => exact ww_405
  | 3, _ => exact ww_406
  | 4, _ => exact ww_407
  | 5, _ => exact ww_408
  | 6, _ => exact ww_409
  | 7, _ => exact ww_410
  | 8, _ => exact ww_411
  | 9, _ => exact ww_412
  | 10, _ => exact ww_413
  | 11, _ => exact ww_401
theorem uw_M : ∀ w ∈ u_ws cr_M cf_M 25, w ∈ gt_tbl := by
  intro w hw
  obtain ⟨k, hk, rfl⟩ := List.mem_map.mp hw
  have hk := List.mem_range.mp hk
  match k, hk with
  | 0, _ => exact ww_665
  | 1, _ => exact ww_667
  | 2, _ => exact ww_669
  | 3, _ => exact ww_671
  | 4, _ => exact ww_673
  | 5, _ => exact ww_675
  | 6, _ => exact ww_677
  | 7, _ => exact ww_679
  | 8, _ => exact ww_681
  | 9, _ => exact ww_683
  | 10, _ => exact ww_685
  | 11, _ => exact ww_687
  | 12, _ => exact ww_689
  | 13, _ => exact ww_691
  | 14, _ => exact ww_693
  | 15, _ => exact ww_695
  | 16, _ => exact ww_697
  | 17, _ => exact ww_699
  | 18, _ => exact ww_701
  | 19, _ => exact ww_703
  | 20, _ => exact ww_705
  | 21, _ => exact ww_707
  | 22, _ => exact ww_709
  | 23, _ => exact ww_711
  | 24, _ => exact ww_713
  | k + 25, hk => exact absurd hk (by omega)

/-! Names: classes, methods, fields, the words of the tables (a run of 24 each), those of nest mates apart. -/
def R_T : String := "TileLog"
def R_D : String := "TileLog$Disk"
def R_H : String := "TileLog$Hashes"
def R_M : String := "TileLogModel"
def R_L : String := "TileLogLaw"
abbrev b_T_init : ByteArray := prog_1_method_1_code
def y_T_init : MethodName := ⟨R_T, "<init>", "()V"⟩
abbrev k_T_init : Cond := .code y_T_init b_T_init 1 none
abbrev b_T_append : ByteArray := prog_1_method_2_code
def y_T_append : MethodName := ⟨R_T, "append", "(J)I"⟩
abbrev k_T_append : Cond := .code y_T_append b_T_append 4 (some .int)
abbrev b_T_publish : ByteArray := prog_1_method_3_code
def y_T_publish : MethodName := ⟨R_T, "publish", "()I"⟩
abbrev k_T_publish : Cond := .code y_T_publish b_T_publish 3 (some .int)
abbrev b_T_order : ByteArray := prog_1_method_4_code
def y_T_order : MethodName := ⟨R_T, "order", "(I)Z"⟩
abbrev k_T_order : Cond := .code y_T_order b_T_order 2 (some .boolean)
abbrev b_T_recover : ByteArray := prog_1_method_5_code
def y_T_recover : MethodName := ⟨R_T, "recover", "()I"⟩
abbrev k_T_recover : Cond := .code y_T_recover b_T_recover 1 (some .int)
abbrev b_T_writes : ByteArray := prog_1_method_6_code
def y_T_writes : MethodName := ⟨R_T, "writes", "()I"⟩
abbrev k_T_writes : Cond := .code y_T_writes b_T_writes 1 (some .int)
abbrev b_T_length : ByteArray := prog_1_method_7_code
def y_T_length : MethodName := ⟨R_T, "length", "()I"⟩
abbrev k_T_length : Cond := .code y_T_length b_T_length 1 (some .int)
abbrev b_T_size : ByteArray := prog_1_method_8_code
def y_T_size : MethodName := ⟨R_T, "size", "(I)I"⟩
abbrev k_T_size : Cond := .code y_T_size b_T_size 2 (some .int)
abbrev b_T_root : ByteArray := prog_1_method_9_code
def y_T_root : MethodName := ⟨R_T, "root", "(I)J"⟩
abbrev k_T_root : Cond := .code y_T_root b_T_root 2 (some .long)
abbrev b_T_latest : ByteArray := prog_1_method_10_code
def y_T_latest : MethodName := ⟨R_T, "latest", "()I"⟩
abbrev k_T_latest : Cond := .code y_T_latest b_T_latest 1 (some .int)
abbrev b_T_tile : ByteArray := prog_1_method_11_code
def y_T_tile : MethodName := ⟨R_T, "tile", "(III)J"⟩
abbrev k_T_tile : Cond := .code y_T_tile b_T_tile 4 (some .long)
abbrev b_T_entry : ByteArray := prog_1_method_12_code
def y_T_entry : MethodName := ⟨R_T, "entry", "(I)J"⟩
abbrev k_T_entry : Cond := .code y_T_entry b_T_entry 2 (some .long)
abbrev b_T_find : ByteArray := prog_1_method_13_code
def y_T_find : MethodName := ⟨R_T, "find", "(J)I"⟩
abbrev k_T_find : Cond := .code y_T_find b_T_find 7 (some .int)
abbrev b_T_rootOf : ByteArray := prog_1_method_14_code
def y_T_rootOf : MethodName := ⟨R_T, "rootOf", "(I)J"⟩
abbrev k_T_rootOf : Cond := .code y_T_rootOf b_T_rootOf 2 (some .long)
abbrev b_T_include : ByteArray := prog_1_method_15_code
def y_T_include : MethodName := ⟨R_T, "include", "(II)I"⟩
abbrev k_T_include : Cond := .code y_T_include b_T_include 3 (some .int)
abbrev b_T_extend : ByteArray := prog_1_method_16_code
def y_T_extend : MethodName := ⟨R_T, "extend", "(II)I"⟩
abbrev k_T_extend : Cond := .code y_T_extend b_T_extend 3 (some .int)
abbrev b_T_proof : ByteArray := prog_1_method_17_code
def y_T_proof : MethodName := ⟨R_T, "proof", "(I)J"⟩
abbrev k_T_proof : Cond := .code y_T_proof b_T_proof 2 (some .long)
abbrev b_T_offer : ByteArray := prog_1_method_18_code
def y_T_offer : MethodName := ⟨R_T, "offer", "(IJ)Z"⟩
abbrev k_T_offer : Cond := .code y_T_offer b_T_offer 4 (some .boolean)
abbrev b_T_offers : ByteArray := prog_1_method_19_code
def y_T_offers : MethodName := ⟨R_T, "offers", "(I)Z"⟩
abbrev k_T_offers : Cond := .code y_T_offers b_T_offers 2 (some .boolean)
abbrev b_T_shows : ByteArray := prog_1_method_20_code
def y_T_shows : MethodName := ⟨R_T, "shows", "(JIIJ)Z"⟩
abbrev k_T_shows : Cond := .code y_T_shows b_T_shows 16 (some .boolean)
abbrev b_T_leads : ByteArray := prog_1_method_21_code
def y_T_leads : MethodName := ⟨R_T, "leads", "(IIJJ)Z"⟩
abbrev k_T_leads : Cond := .code y_T_leads b_T_leads 8 (some .boolean)
abbrev b_T_leadsBehind : ByteArray := prog_1_method_22_code
def y_T_leadsBehind : MethodName := ⟨R_T, "leadsBehind", "(IIJJZ)Z"⟩
abbrev k_T_leadsBehind : Cond := .code y_T_leadsBehind b_T_leadsBehind 20 (some .boolean)
abbrev b_T_standsLeft : ByteArray := prog_1_method_23_code
def y_T_standsLeft : MethodName := ⟨R_T, "standsLeft", "(II)Z"⟩
abbrev k_T_standsLeft : Cond := .code y_T_standsLeft b_T_standsLeft 2 (some .boolean)
abbrev b_T_levelsClimbed : ByteArray := prog_1_method_24_code
def y_T_levelsClimbed : MethodName := ⟨R_T, "levelsClimbed", "(IZ)I"⟩
abbrev k_T_levelsClimbed : Cond := .code y_T_levelsClimbed b_T_levelsClimbed 2 (some .int)
abbrev b_T_zerosAtEnd : ByteArray := prog_1_method_25_code
def y_T_zerosAtEnd : MethodName := ⟨R_T, "zerosAtEnd", "(I)I"⟩
abbrev k_T_zerosAtEnd : Cond := .code y_T_zerosAtEnd b_T_zerosAtEnd 2 (some .int)
abbrev b_T_isPowerOfTwo : ByteArray := prog_1_method_26_code
def y_T_isPowerOfTwo : MethodName := ⟨R_T, "isPowerOfTwo", "(I)Z"⟩
abbrev k_T_isPowerOfTwo : Cond := .code y_T_isPowerOfTwo b_T_isPowerOfTwo 1 (some .boolean)
abbrev b_T_addPath : ByteArray := prog_1_method_27_code
def y_T_addPath : MethodName := ⟨R_T, "addPath", "(III)V"⟩
abbrev k_T_addPath : Cond := .code y_T_addPath b_T_addPath 5 none
abbrev b_T_addBridge : ByteArray := prog_1_method_28_code
def y_T_addBridge : MethodName := ⟨R_T, "addBridge", "(IIIZ)V"⟩
abbrev k_T_addBridge : Cond := .code y_T_addBridge b_T_addBridge 6 none
abbrev b_T_addToProof : ByteArray := prog_1_method_29_code
def y_T_addToProof : MethodName := ⟨R_T, "addToProof", "(II)V"⟩
abbrev k_T_addToProof : Cond := .code y_T_addToProof b_T_addToProof 3 none
abbrev b_M_init : ByteArray := prog_5_method_1_code
def y_M_init : MethodName := ⟨R_M, "<init>", "()V"⟩
abbrev k_M_init : Cond := .code y_M_init b_M_init 1 none
abbrev b_M_mix : ByteArray := prog_5_method_2_code
def y_M_mix : MethodName := ⟨R_M, "mix", "(JJ)J"⟩
abbrev k_M_mix : Cond := .code y_M_mix b_M_mix 8 (some .long)
abbrev b_M_leaf : ByteArray := prog_5_method_3_code
def y_M_leaf : MethodName := ⟨R_M, "leaf", "(J)J"⟩
abbrev k_M_leaf : Cond := .code y_M_leaf b_M_leaf 2 (some .long)
abbrev b_M_node : ByteArray := prog_5_method_4_code
def y_M_node : MethodName := ⟨R_M, "node", "(JJ)J"⟩
abbrev k_M_node : Cond := .code y_M_node b_M_node 4 (some .long)
abbrev b_M_rootAt : ByteArray := prog_5_method_5_code
def y_M_rootAt : MethodName := ⟨R_M, "rootAt", "(II)J"⟩
abbrev k_M_rootAt : Cond := .code y_M_rootAt b_M_rootAt 7 (some .long)
abbrev b_M_half : ByteArray := prog_5_method_6_code
def y_M_half : MethodName := ⟨R_M, "half", "(I)I"⟩
abbrev k_M_half : Cond := .code y_M_half b_M_half 2 (some .int)
abbrev b_M_write : ByteArray := prog_5_method_7_code
def y_M_write : MethodName := ⟨R_M, "write", "()Z"⟩
abbrev k_M_write : Cond := .code y_M_write b_M_write 1 (some .boolean)
abbrev b_M_rightAt : ByteArray := prog_5_method_8_code
def y_M_rightAt : MethodName := ⟨R_M, "rightAt", "(III)J"⟩
abbrev k_M_rightAt : Cond := .code y_M_rightAt b_M_rightAt 4 (some .long)
abbrev b_M_putRight : ByteArray := prog_5_method_9_code
def y_M_putRight : MethodName := ⟨R_M, "putRight", "(I)V"⟩
abbrev k_M_putRight : Cond := .code y_M_putRight b_M_putRight 5 none
abbrev b_M_latestPlace : ByteArray := prog_5_method_10_code
def y_M_latestPlace : MethodName := ⟨R_M, "latestPlace", "()I"⟩
abbrev k_M_latestPlace : Cond := .code y_M_latestPlace b_M_latestPlace 1 (some .int)
abbrev b_M_latestNumber : ByteArray := prog_5_method_11_code
def y_M_latestNumber : MethodName := ⟨R_M, "latestNumber", "()I"⟩
abbrev k_M_latestNumber : Cond := .code y_M_latestNumber b_M_latestNumber 2 (some .int)
abbrev b_M_published : ByteArray := prog_5_method_12_code
def y_M_published : MethodName := ⟨R_M, "published", "()I"⟩
abbrev k_M_published : Cond := .code y_M_published b_M_published 2 (some .int)
abbrev b_M_append : ByteArray := prog_5_method_13_code
def y_M_append : MethodName := ⟨R_M, "append", "(J)I"⟩
abbrev k_M_append : Cond := .code y_M_append b_M_append 3 (some .int)
abbrev b_M_publish : ByteArray := prog_5_method_14_code
def y_M_publish : MethodName := ⟨R_M, "publish", "()I"⟩
abbrev k_M_publish : Cond := .code y_M_publish b_M_publish 2 (some .int)
abbrev b_M_order : ByteArray := prog_5_method_15_code
def y_M_order : MethodName := ⟨R_M, "order", "(I)Z"⟩
abbrev k_M_order : Cond := .code y_M_order b_M_order 2 (some .boolean)
abbrev b_M_recover : ByteArray := prog_5_method_16_code
def y_M_recover : MethodName := ⟨R_M, "recover", "()I"⟩
abbrev k_M_recover : Cond := .code y_M_recover b_M_recover 1 (some .int)
abbrev b_M_writes : ByteArray := prog_5_method_17_code
def y_M_writes : MethodName := ⟨R_M, "writes", "()I"⟩
abbrev k_M_writes : Cond := .code y_M_writes b_M_writes 1 (some .int)
abbrev b_M_length : ByteArray := prog_5_method_18_code
def y_M_length : MethodName := ⟨R_M, "length", "()I"⟩
abbrev k_M_length : Cond := .code y_M_length b_M_length 1 (some .int)
abbrev b_M_isHead : ByteArray := prog_5_method_19_code
def y_M_isHead : MethodName := ⟨R_M, "isHead", "(I)Z"⟩
abbrev k_M_isHead : Cond := .code y_M_isHead b_M_isHead 2 (some .boolean)
abbrev b_M_size : ByteArray := prog_5_method_20_code
def y_M_size : MethodName := ⟨R_M, "size", "(I)I"⟩
abbrev k_M_size : Cond := .code y_M_size b_M_size 2 (some .int)
abbrev b_M_root : ByteArray := prog_5_method_21_code
def y_M_root : MethodName := ⟨R_M, "root", "(I)J"⟩
abbrev k_M_root : Cond := .code y_M_root b_M_root 2 (some .long)
abbrev b_M_latest : ByteArray := prog_5_method_22_code
def y_M_latest : MethodName := ⟨R_M, "latest", "()I"⟩
abbrev k_M_latest : Cond := .code y_M_latest b_M_latest 1 (some .int)
abbrev b_M_tile : ByteArray := prog_5_method_23_code
def y_M_tile : MethodName := ⟨R_M, "tile", "(III)J"⟩
abbrev k_M_tile : Cond := .code y_M_tile b_M_tile 4 (some .long)
abbrev b_M_entry : ByteArray := prog_5_method_24_code
def y_M_entry : MethodName := ⟨R_M, "entry", "(I)J"⟩
abbrev k_M_entry : Cond := .code y_M_entry b_M_entry 2 (some .long)
abbrev b_M_find : ByteArray := prog_5_method_25_code
def y_M_find : MethodName := ⟨R_M, "find", "(J)I"⟩
abbrev k_M_find : Cond := .code y_M_find b_M_find 7 (some .int)
abbrev b_M_rootOf : ByteArray := prog_5_method_26_code
def y_M_rootOf : MethodName := ⟨R_M, "rootOf", "(I)J"⟩
abbrev k_M_rootOf : Cond := .code y_M_rootOf b_M_rootOf 2 (some .long)
abbrev b_M_turn : ByteArray := prog_5_method_27_code
def y_M_turn : MethodName := ⟨R_M, "turn", "()V"⟩
abbrev k_M_turn : Cond := .code y_M_turn b_M_turn 4 none
abbrev b_M_say : ByteArray := prog_5_method_28_code
def y_M_say : MethodName := ⟨R_M, "say", "(J)V"⟩
abbrev k_M_say : Cond := .code y_M_say b_M_say 3 none
abbrev b_M_include : ByteArray := prog_5_method_29_code
def y_M_include : MethodName := ⟨R_M, "include", "(II)I"⟩
abbrev k_M_include : Cond := .code y_M_include b_M_include 10 (some .int)
abbrev b_M_extend : ByteArray := prog_5_method_30_code
def y_M_extend : MethodName := ⟨R_M, "extend", "(II)I"⟩
abbrev k_M_extend : Cond := .code y_M_extend b_M_extend 11 (some .int)
abbrev b_M_proof : ByteArray := prog_5_method_31_code
def y_M_proof : MethodName := ⟨R_M, "proof", "(I)J"⟩
abbrev k_M_proof : Cond := .code y_M_proof b_M_proof 2 (some .long)
abbrev b_M_offer : ByteArray := prog_5_method_32_code
def y_M_offer : MethodName := ⟨R_M, "offer", "(IJ)Z"⟩
abbrev k_M_offer : Cond := .code y_M_offer b_M_offer 4 (some .boolean)
abbrev b_M_offers : ByteArray := prog_5_method_33_code
def y_M_offers : MethodName := ⟨R_M, "offers", "(I)Z"⟩
abbrev k_M_offers : Cond := .code y_M_offers b_M_offers 2 (some .boolean)
abbrev b_M_halvings : ByteArray := prog_5_method_34_code
def y_M_halvings : MethodName := ⟨R_M, "halvings", "(I)I"⟩
abbrev k_M_halvings : Cond := .code y_M_halvings b_M_halvings 2 (some .int)
abbrev b_M_shows : ByteArray := prog_5_method_35_code
def y_M_shows : MethodName := ⟨R_M, "shows", "(JIIJ)Z"⟩
abbrev k_M_shows : Cond := .code y_M_shows b_M_shows 13 (some .boolean)
abbrev b_M_buildRow : ByteArray := prog_5_method_36_code
def y_M_buildRow : MethodName := ⟨R_M, "buildRow", "(IJ)V"⟩
abbrev k_M_buildRow : Cond := .code y_M_buildRow b_M_buildRow 5 none
abbrev b_M_leads : ByteArray := prog_5_method_37_code
def y_M_leads : MethodName := ⟨R_M, "leads", "(IIJJ)Z"⟩
abbrev k_M_leads : Cond := .code y_M_leads b_M_leads 15 (some .boolean)
abbrev b_D_init : ByteArray := prog_2_method_1_code
def y_D_init : MethodName := ⟨R_D, "<init>", "()V"⟩
abbrev k_D_init : Cond := .code y_D_init b_D_init 1 none
abbrev b_D_hasHead : ByteArray := prog_2_method_2_code
def y_D_hasHead : MethodName := ⟨R_D, "hasHead", "(I)Z"⟩
abbrev k_D_hasHead : Cond := .code y_D_hasHead b_D_hasHead 2 (some .boolean)
abbrev b_D_latestPlace : ByteArray := prog_2_method_3_code
def y_D_latestPlace : MethodName := ⟨R_D, "latestPlace", "()I"⟩
abbrev k_D_latestPlace : Cond := .code y_D_latestPlace b_D_latestPlace 1 (some .int)
abbrev b_D_latestNumber : ByteArray := prog_2_method_4_code
def y_D_latestNumber : MethodName := ⟨R_D, "latestNumber", "()I"⟩
abbrev k_D_latestNumber : Cond := .code y_D_latestNumber b_D_latestNumber 1 (some .int)
abbrev b_D_publishedSize : ByteArray := prog_2_method_5_code
def y_D_publishedSize : MethodName := ⟨R_D, "publishedSize", "()I"⟩
abbrev k_D_publishedSize : Cond := .code y_D_publishedSize b_D_publishedSize 1 (some .int)
abbrev b_D_beginWrite : ByteArray := prog_2_method_6_code
def y_D_beginWrite : MethodName := ⟨R_D, "beginWrite", "()Z"⟩
abbrev k_D_beginWrite : Cond := .code y_D_beginWrite b_D_beginWrite 1 (some .boolean)
abbrev b_D_writeEntry : ByteArray := prog_2_method_7_code
def y_D_writeEntry : MethodName := ⟨R_D, "writeEntry", "(IJ)Z"⟩
abbrev k_D_writeEntry : Cond := .code y_D_writeEntry b_D_writeEntry 4 (some .boolean)
abbrev b_D_writeHead : ByteArray := prog_2_method_8_code
def y_D_writeHead : MethodName := ⟨R_D, "writeHead", "(IIJ)Z"⟩
abbrev k_D_writeHead : Cond := .code y_D_writeHead b_D_writeHead 6 (some .boolean)
abbrev b_D_writeTilesFor : ByteArray := prog_2_method_9_code
def y_D_writeTilesFor : MethodName := ⟨R_D, "writeTilesFor", "(I)Z"⟩
abbrev k_D_writeTilesFor : Cond := .code y_D_writeTilesFor b_D_writeTilesFor 3 (some .boolean)
abbrev b_D_isRight : ByteArray := prog_2_method_10_code
def y_D_isRight : MethodName := ⟨R_D, "isRight", "(II)Z"⟩
abbrev k_D_isRight : Cond := .code y_D_isRight b_D_isRight 5 (some .boolean)
abbrev b_D_leafBelow : ByteArray := prog_2_method_11_code
def y_D_leafBelow : MethodName := ⟨R_D, "leafBelow", "(II)J"⟩
abbrev k_D_leafBelow : Cond := .code y_D_leafBelow b_D_leafBelow 3 (some .long)
abbrev b_D_groupBelow : ByteArray := prog_2_method_12_code
def y_D_groupBelow : MethodName := ⟨R_D, "groupBelow", "(II)J"⟩
abbrev k_D_groupBelow : Cond := .code y_D_groupBelow b_D_groupBelow 4 (some .long)
abbrev b_D_writeTile : ByteArray := prog_2_method_13_code
def y_D_writeTile : MethodName := ⟨R_D, "writeTile", "(I)Z"⟩
abbrev k_D_writeTile : Cond := .code y_D_writeTile b_D_writeTile 2 (some .boolean)
abbrev b_H_mix : ByteArray := prog_3_method_2_code
def y_H_mix : MethodName := ⟨R_H, "mix", "(JJ)J"⟩
abbrev k_H_mix : Cond := .code y_H_mix b_H_mix 8 (some .long)
abbrev b_H_ofLeaf : ByteArray := prog_3_method_3_code
def y_H_ofLeaf : MethodName := ⟨R_H, "ofLeaf", "(J)J"⟩
abbrev k_H_ofLeaf : Cond := .code y_H_ofLeaf b_H_ofLeaf 2 (some .long)
abbrev b_H_ofNode : ByteArray := prog_3_method_4_code
def y_H_ofNode : MethodName := ⟨R_H, "ofNode", "(JJ)J"⟩
abbrev k_H_ofNode : Cond := .code y_H_ofNode b_H_ofNode 4 (some .long)
abbrev b_H_half : ByteArray := prog_3_method_5_code
def y_H_half : MethodName := ⟨R_H, "half", "(I)I"⟩
abbrev k_H_half : Cond := .code y_H_half b_H_half 2 (some .int)
abbrev b_H_ofRow : ByteArray := prog_3_method_6_code
def y_H_ofRow : MethodName := ⟨R_H, "ofRow", "([JII)J"⟩
abbrev k_H_ofRow : Cond := .code y_H_ofRow b_H_ofRow 4 (some .long)
def F_T : u_T := fun k => match k with
  | 0 => ("TileLog", "disk", "LTileLog$Disk;", true)
  | 1 => ("TileLog", "proofHashes", "[J", true)
  | 2 => ("TileLog", "proofLength", "I", false)
  | 3 => ("TileLog", "offerHashes", "[J", true)
  | _ => ("TileLog", "offerLength", "I", false)
def ft_T : Nat → FieldType := fun k => match k with
  | 0 => .object "TileLog$Disk"
  | 1 => .array (.long)
  | 2 => .int
  | 3 => .array (.long)
  | _ => .int
theorem n_T : ∀ a, a < 5 → ∀ b, b < 5 → a ≠ b → (F_T a).2.1 ≠ (F_T b).2.1 := by decide +kernel
theorem ft_T_ok : ∀ k, k < 5 → parseFieldDescriptor (F_T k).2.2.1 = some (ft_T k) := by decide +kernel
def F_D : u_T := fun k => match k with
  | 0 => ("TileLog$Disk", "entries", "[J", true)
  | 1 => ("TileLog$Disk", "tiles", "[[J", true)
  | 2 => ("TileLog$Disk", "headNumbers", "[I", true)
  | 3 => ("TileLog$Disk", "headSizes", "[I", true)
  | 4 => ("TileLog$Disk", "headRoots", "[J", true)
  | 5 => ("TileLog$Disk", "rightTile", "[J", true)
  | 6 => ("TileLog$Disk", "filled", "I", false)
  | 7 => ("TileLog$Disk", "writesMade", "I", false)
  | 8 => ("TileLog$Disk", "writesBeforeCrash", "I", false)
  | _ => ("TileLog$Disk", "down", "Z", false)
def ft_D : Nat → FieldType := fun k => match k with
  | 0 => .array (.long)
  | 1 => .array (.array (.long))
  | 2 => .array (.int)
  | 3 => .array (.int)
  | 4 => .array (.long)
  | 5 => .array (.long)
  | 6 => .int
  | 7 => .int
  | 8 => .int
  | _ => .boolean
theorem n_D : ∀ a, a < 10 → ∀ b, b < 10 → a ≠ b → (F_D a).2.1 ≠ (F_D b).2.1 := by decide +kernel
theorem ft_D_ok : ∀ k, k < 10 → parseFieldDescriptor (F_D k).2.2.1 = some (ft_D k) := by decide +kernel
def F_M : u_T := fun k => match k with
  | 0 => ("TileLogModel", "stored", "I", false)
  | 1 => ("TileLogModel", "entries", "[J", true)
  | 2 => ("TileLogModel", "tiles", "[J", true)
  | 3 => ("TileLogModel", "numbers", "[I", true)
  | 4 => ("TileLogModel", "sizes", "[I", true)
  | 5 => ("TileLogModel", "roots", "[J", true)
  | 6 => ("TileLogModel", "down", "Z", false)
  | 7 => ("TileLogModel", "writes", "I", false)
  | 8 => ("TileLogModel", "crashAfter", "I", false)
  | 9 => ("TileLogModel", "crashed", "Z", false)
  | 10 => ("TileLogModel", "proofLength", "I", false)
  | 11 => ("TileLogModel", "proof", "[J", true)
  | 12 => ("TileLogModel", "offerLength", "I", false)
  | 13 => ("TileLogModel", "offer", "[J", true)
  | 14 => ("TileLogModel", "rowLength", "I", false)
  | 15 => ("TileLogModel", "row", "[J", true)
  | 16 => ("TileLogModel", "whole", "[J", true)
  | _ => ("TileLogModel", "there", "[Z", true)
def ft_M : Nat → FieldType := fun k => match k with
  | 0 => .int
  | 1 => .array (.long)
  | 2 => .array (.long)
  | 3 => .array (.int)
  | 4 => .array (.int)
  | 5 => .array (.long)
  | 6 => .boolean
  | 7 => .int
  | 8 => .int
  | 9 => .boolean
  | 10 => .int
  | 11 => .array (.long)
  | 12 => .int
  | 13 => .array (.long)
  | 14 => .int
  | 15 => .array (.long)
  | 16 => .array (.long)
  | _ => .array (.boolean)
theorem n_M : ∀ a, a < 18 → ∀ b, b < 18 → a ≠ b → (F_M a).2.1 ≠ (F_M b).2.1 := by decide +kernel
theorem ft_M_ok : ∀ k, k < 18 → parseFieldDescriptor (F_M k).2.2.1 = some (ft_M k) := by decide +kernel
def tl_w0 : List Cond := [.initialized R_L, .initialized R_T, .initialized R_D, .initialized R_M, .initialized R_H, .initialized "java/lang/System", .classLink R_L 7 R_T, .instantiable R_T 5, .methodLink R_L 9 y_T_init, .instanceMethod y_T_init, k_T_init, .methodLink R_T 1 objectInit, .instanceMethod objectInit, .code objectInit ⟨#[0xb1]⟩ 1 none, .classLink R_T 7 R_D, .instantiable R_D 10, .instanceMethod y_D_init, k_D_init, .methodLink R_D 3 objectInit, .classLink R_D 15 "[[J", .fieldLink R_D 9 "TileLog$Disk" "entries" "[J", .fieldLink R_D 17 "TileLog$Disk" "tiles" "[[J", .fieldLink R_D 20 "TileLog$Disk" "headNumbers" "[I", .fieldLink R_D 24 "TileLog$Disk" "headSizes" "[I"]
def tl_w1 : List Cond := [.fieldLink R_D 27 "TileLog$Disk" "headRoots" "[J", .fieldLink R_D 30 "TileLog$Disk" "rightTile" "[J", .fieldLink R_D 33 "TileLog$Disk" "filled" "I", .fieldLink R_D 37 "TileLog$Disk" "writesMade" "I", .fieldLink R_D 40 "TileLog$Disk" "writesBeforeCrash" "I", .fieldLink R_D 43 "TileLog$Disk" "down" "Z", .arrayClass .long, .arrayClass .int, .fieldLink R_T 10 "TileLog" "disk" "LTileLog$Disk;", .fieldLink R_T 16 "TileLog" "proofHashes" "[J", .fieldLink R_T 20 "TileLog" "proofLength" "I", .fieldLink R_T 24 "TileLog" "offerHashes" "[J", .fieldLink R_T 27 "TileLog" "offerLength" "I", .methodLink R_L 15 y_T_append, .instanceMethod y_T_append, .selects R_T y_T_append y_T_append, k_T_append, .instanceMethod y_D_writeEntry, k_D_writeEntry, .methodLink R_D 51 y_D_beginWrite, .instanceMethod y_D_beginWrite, k_D_beginWrite, .methodLink R_L 20 y_T_publish, .instanceMethod y_T_publish]
def tl_w2 : List Cond := [.selects R_T y_T_publish y_T_publish, k_T_publish, .instanceMethod y_D_publishedSize, k_D_publishedSize, .methodLink R_D 47 y_D_latestPlace, .instanceMethod y_D_latestPlace, k_D_latestPlace, .instanceMethod y_D_writeTilesFor, k_D_writeTilesFor, .methodLink R_D 55 y_D_isRight, .instanceMethod y_D_isRight, k_D_isRight, .methodLink R_D 63 y_D_leafBelow, .instanceMethod y_D_leafBelow, k_D_leafBelow, .static y_H_ofLeaf, k_H_ofLeaf, .constantLong R_H 15 (7), .methodLink R_H 17 y_H_mix, .static y_H_mix, k_H_mix, .constantLong R_H 11 (5871781006564002453), .constantLong R_H 13 (1181783497276652981), .methodLink R_D 67 y_D_groupBelow]
def tl_w3 : List Cond := [.instanceMethod y_D_groupBelow, k_D_groupBelow, .static y_H_ofRow, k_H_ofRow, .methodLink R_H 23 y_H_ofLeaf, .methodLink R_H 27 y_H_half, .static y_H_half, k_H_half, .methodLink R_H 31 y_H_ofRow, .methodLink R_H 35 y_H_ofNode, .static y_H_ofNode, k_H_ofNode, .constantLong R_H 21 (2), .methodLink R_D 59 y_D_writeTile, .instanceMethod y_D_writeTile, k_D_writeTile, .methodLink R_D 80 arraycopyName, .static arraycopyName, .native arraycopyName, .instanceMethod y_D_latestNumber, k_D_latestNumber, .instanceMethod y_D_writeHead, k_D_writeHead, .methodLink R_L 25 y_T_order]
def tl_w4 : List Cond := [.instanceMethod y_T_order, .selects R_T y_T_order y_T_order, k_T_order, .methodLink R_L 30 y_T_recover, .instanceMethod y_T_recover, .selects R_T y_T_recover y_T_recover, k_T_recover, .methodLink R_L 34 y_T_writes, .instanceMethod y_T_writes, .selects R_T y_T_writes y_T_writes, k_T_writes, .methodLink R_L 38 y_T_length, .instanceMethod y_T_length, .selects R_T y_T_length y_T_length, k_T_length, .methodLink R_L 42 y_T_size, .instanceMethod y_T_size, .selects R_T y_T_size y_T_size, k_T_size, .instanceMethod y_D_hasHead, k_D_hasHead, .methodLink R_L 47 y_T_root, .instanceMethod y_T_root, .selects R_T y_T_root y_T_root]
def tl_w5 : List Cond := [k_T_root, .methodLink R_L 52 y_T_latest, .instanceMethod y_T_latest, .selects R_T y_T_latest y_T_latest, k_T_latest, .methodLink R_L 56 y_T_tile, .instanceMethod y_T_tile, .selects R_T y_T_tile y_T_tile, k_T_tile, .methodLink R_L 61 y_T_entry, .instanceMethod y_T_entry, .selects R_T y_T_entry y_T_entry, k_T_entry, .methodLink R_L 65 y_T_find, .instanceMethod y_T_find, .selects R_T y_T_find y_T_find, k_T_find, .methodLink R_L 69 y_T_rootOf, .instanceMethod y_T_rootOf, .selects R_T y_T_rootOf y_T_rootOf, k_T_rootOf, .methodLink R_L 73 y_T_include, .instanceMethod y_T_include, .selects R_T y_T_include y_T_include]
def tl_w6 : List Cond := [k_T_include, .methodLink R_T 89 y_T_addPath, .instanceMethod y_T_addPath, k_T_addPath, .methodLink R_T 124 y_T_addToProof, .instanceMethod y_T_addToProof, k_T_addToProof, .methodLink R_L 78 y_T_extend, .instanceMethod y_T_extend, .selects R_T y_T_extend y_T_extend, k_T_extend, .methodLink R_T 93 y_T_addBridge, .instanceMethod y_T_addBridge, k_T_addBridge, .methodLink R_L 82 y_T_proof, .instanceMethod y_T_proof, .selects R_T y_T_proof y_T_proof, k_T_proof, .methodLink R_L 86 y_T_offer, .instanceMethod y_T_offer, .selects R_T y_T_offer y_T_offer, k_T_offer, .methodLink R_L 91 y_T_offers, .instanceMethod y_T_offers]
def tl_w7 : List Cond := [.selects R_T y_T_offers y_T_offers, k_T_offers, .methodLink R_L 95 y_T_shows, .instanceMethod y_T_shows, .selects R_T y_T_shows y_T_shows, k_T_shows, .constant R_T 97 (1000000), .methodLink R_T 98 y_T_standsLeft, .static y_T_standsLeft, k_T_standsLeft, .methodLink R_T 106 y_T_levelsClimbed, .static y_T_levelsClimbed, k_T_levelsClimbed, .methodLink R_T 117 y_T_zerosAtEnd, .static y_T_zerosAtEnd, k_T_zerosAtEnd, .methodLink R_L 100 y_T_leads, .instanceMethod y_T_leads, .selects R_T y_T_leads y_T_leads, k_T_leads, .methodLink R_T 110 y_T_isPowerOfTwo, .static y_T_isPowerOfTwo, k_T_isPowerOfTwo, .methodLink R_T 113 y_T_leadsBehind]
def tl_w8 : List Cond := [.instanceMethod y_T_leadsBehind, k_T_leadsBehind, .classLink R_L 10 R_M, .instantiable R_M 18, .methodLink R_L 12 y_M_init, .instanceMethod y_M_init, k_M_init, .methodLink R_M 1 objectInit, .fieldLink R_M 91 "TileLogModel" "stored" "I", .fieldLink R_M 7 "TileLogModel" "entries" "[J", .fieldLink R_M 13 "TileLogModel" "tiles" "[J", .fieldLink R_M 16 "TileLogModel" "numbers" "[I", .fieldLink R_M 20 "TileLogModel" "sizes" "[I", .fieldLink R_M 23 "TileLogModel" "roots" "[J", .fieldLink R_M 69 "TileLogModel" "down" "Z", .fieldLink R_M 72 "TileLogModel" "writes" "I", .fieldLink R_M 26 "TileLogModel" "crashAfter" "I", .fieldLink R_M 65 "TileLogModel" "crashed" "Z", .fieldLink R_M 108 "TileLogModel" "proofLength" "I", .fieldLink R_M 30 "TileLogModel" "proof" "[J", .fieldLink R_M 122 "TileLogModel" "offerLength" "I", .fieldLink R_M 33 "TileLogModel" "offer" "[J", .fieldLink R_M 129 "TileLogModel" "rowLength" "I", .fieldLink R_M 36 "TileLogModel" "row" "[J"]
def tl_w9 : List Cond := [.fieldLink R_M 39 "TileLogModel" "whole" "[J", .fieldLink R_M 42 "TileLogModel" "there" "[Z", .arrayClass .boolean, .methodLink R_L 19 y_M_append, .instanceMethod y_M_append, .selects R_M y_M_append y_M_append, k_M_append, .methodLink R_M 83 y_M_write, .instanceMethod y_M_write, k_M_write, .methodLink R_L 24 y_M_publish, .instanceMethod y_M_publish, .selects R_M y_M_publish y_M_publish, k_M_publish, .methodLink R_M 94 y_M_published, .instanceMethod y_M_published, k_M_published, .methodLink R_M 87 y_M_latestPlace, .instanceMethod y_M_latestPlace, k_M_latestPlace, .methodLink R_M 97 y_M_putRight, .instanceMethod y_M_putRight, k_M_putRight, .methodLink R_M 79 y_M_rightAt]
def tl_w10 : List Cond := [.instanceMethod y_M_rightAt, k_M_rightAt, .methodLink R_M 58 y_M_leaf, .static y_M_leaf, k_M_leaf, .constantLong R_M 50 (7), .methodLink R_M 52 y_M_mix, .static y_M_mix, k_M_mix, .constantLong R_M 46 (5871781006564002453), .constantLong R_M 48 (1181783497276652981), .methodLink R_M 75 y_M_rootAt, .instanceMethod y_M_rootAt, k_M_rootAt, .methodLink R_M 62 y_M_node, .static y_M_node, k_M_node, .constantLong R_M 56 (2), .methodLink R_M 101 y_M_latestNumber, .instanceMethod y_M_latestNumber, k_M_latestNumber, .methodLink R_L 29 y_M_order, .instanceMethod y_M_order, .selects R_M y_M_order y_M_order]
def tl_w11 : List Cond := [k_M_order, .methodLink R_L 33 y_M_recover, .instanceMethod y_M_recover, .selects R_M y_M_recover y_M_recover, k_M_recover, .methodLink R_L 37 y_M_writes, .instanceMethod y_M_writes, .selects R_M y_M_writes y_M_writes, k_M_writes, .methodLink R_L 41 y_M_length, .instanceMethod y_M_length, .selects R_M y_M_length y_M_length, k_M_length, .methodLink R_L 46 y_M_size, .instanceMethod y_M_size, .selects R_M y_M_size y_M_size, k_M_size, .methodLink R_M 104 y_M_isHead, .instanceMethod y_M_isHead, k_M_isHead, .methodLink R_L 51 y_M_root, .instanceMethod y_M_root, .selects R_M y_M_root y_M_root, k_M_root]
def tl_w12 : List Cond := [.methodLink R_L 55 y_M_latest, .instanceMethod y_M_latest, .selects R_M y_M_latest y_M_latest, k_M_latest, .methodLink R_L 60 y_M_tile, .instanceMethod y_M_tile, .selects R_M y_M_tile y_M_tile, k_M_tile, .methodLink R_L 64 y_M_entry, .instanceMethod y_M_entry, .selects R_M y_M_entry y_M_entry, k_M_entry, .methodLink R_L 68 y_M_find, .instanceMethod y_M_find, .selects R_M y_M_find y_M_find, k_M_find, .methodLink R_L 72 y_M_rootOf, .instanceMethod y_M_rootOf, .selects R_M y_M_rootOf y_M_rootOf, k_M_rootOf, .methodLink R_L 77 y_M_include, .instanceMethod y_M_include, .selects R_M y_M_include y_M_include, k_M_include]
def tl_w13 : List Cond := [.methodLink R_M 111 y_M_half, .static y_M_half, k_M_half, .methodLink R_M 115 y_M_say, .instanceMethod y_M_say, k_M_say, .methodLink R_M 119 y_M_turn, .instanceMethod y_M_turn, k_M_turn, .methodLink R_L 81 y_M_extend, .instanceMethod y_M_extend, .selects R_M y_M_extend y_M_extend, k_M_extend, .methodLink R_L 85 y_M_proof, .instanceMethod y_M_proof, .selects R_M y_M_proof y_M_proof, k_M_proof, .methodLink R_L 90 y_M_offer, .instanceMethod y_M_offer, .selects R_M y_M_offer y_M_offer, k_M_offer, .methodLink R_L 94 y_M_offers, .instanceMethod y_M_offers, .selects R_M y_M_offers y_M_offers]
def tl_w14 : List Cond := [k_M_offers, .methodLink R_L 99 y_M_shows, .instanceMethod y_M_shows, .selects R_M y_M_shows y_M_shows, k_M_shows, .constant R_M 125 (1000000), .methodLink R_M 126 y_M_halvings, .static y_M_halvings, k_M_halvings, .methodLink R_L 104 y_M_leads, .instanceMethod y_M_leads, .selects R_M y_M_leads y_M_leads, k_M_leads, .methodLink R_M 132 y_M_buildRow, .instanceMethod y_M_buildRow, k_M_buildRow, .constantLong R_L 13 (4294967295), .selects R_D y_D_writeEntry y_D_writeEntry, .selects R_D y_D_beginWrite y_D_beginWrite, .selects R_D y_D_publishedSize y_D_publishedSize, .selects R_D y_D_latestPlace y_D_latestPlace, .selects R_D y_D_writeTilesFor y_D_writeTilesFor, .selects R_D y_D_isRight y_D_isRight, .selects R_D y_D_leafBelow y_D_leafBelow]
def tl_w15 : List Cond := [.selects R_D y_D_groupBelow y_D_groupBelow, .selects R_D y_D_writeTile y_D_writeTile, .selects R_D y_D_latestNumber y_D_latestNumber, .selects R_D y_D_writeHead y_D_writeHead, .selects R_D y_D_hasHead y_D_hasHead, .selects R_T y_T_addPath y_T_addPath, .selects R_T y_T_addToProof y_T_addToProof, .selects R_T y_T_addBridge y_T_addBridge, .selects R_T y_T_leadsBehind y_T_leadsBehind, .selects R_M y_M_write y_M_write, .selects R_M y_M_published y_M_published, .selects R_M y_M_latestPlace y_M_latestPlace, .selects R_M y_M_putRight y_M_putRight, .selects R_M y_M_rightAt y_M_rightAt, .selects R_M y_M_rootAt y_M_rootAt, .selects R_M y_M_latestNumber y_M_latestNumber, .selects R_M y_M_isHead y_M_isHead, .selects R_M y_M_say y_M_say, .selects R_M y_M_turn y_M_turn, .selects R_M y_M_buildRow y_M_buildRow, .laysFinal R_T "TileLog" "disk" "LTileLog$Disk;", .laysFinal R_T "TileLog" "proofHashes" "[J", .lays R_T "TileLog" "proofLength" "I", .laysFinal R_T "TileLog" "offerHashes" "[J"]
def tl_w16 : List Cond := [.lays R_T "TileLog" "offerLength" "I", .laysFinal R_D "TileLog$Disk" "entries" "[J", .laysFinal R_D "TileLog$Disk" "tiles" "[[J", .laysFinal R_D "TileLog$Disk" "headNumbers" "[I", .laysFinal R_D "TileLog$Disk" "headSizes" "[I", .laysFinal R_D "TileLog$Disk" "headRoots" "[J", .laysFinal R_D "TileLog$Disk" "rightTile" "[J", .lays R_D "TileLog$Disk" "filled" "I", .lays R_D "TileLog$Disk" "writesMade" "I", .lays R_D "TileLog$Disk" "writesBeforeCrash" "I", .lays R_D "TileLog$Disk" "down" "Z", .lays R_M "TileLogModel" "stored" "I", .laysFinal R_M "TileLogModel" "entries" "[J", .laysFinal R_M "TileLogModel" "tiles" "[J", .laysFinal R_M "TileLogModel" "numbers" "[I", .laysFinal R_M "TileLogModel" "sizes" "[I", .laysFinal R_M "TileLogModel" "roots" "[J", .lays R_M "TileLogModel" "down" "Z", .lays R_M "TileLogModel" "writes" "I", .lays R_M "TileLogModel" "crashAfter" "I", .lays R_M "TileLogModel" "crashed" "Z", .lays R_M "TileLogModel" "proofLength" "I", .laysFinal R_M "TileLogModel" "proof" "[J", .lays R_M "TileLogModel" "offerLength" "I"]
def tl_w17 : List Cond := [.laysFinal R_M "TileLogModel" "offer" "[J", .lays R_M "TileLogModel" "rowLength" "I", .laysFinal R_M "TileLogModel" "row" "[J", .laysFinal R_M "TileLogModel" "whole" "[J", .laysFinal R_M "TileLogModel" "there" "[Z"]
def tl_ws : List Cond := tl_w0 ++ (tl_w1 ++ (tl_w2 ++ (tl_w3 ++ (tl_w4 ++ (tl_w5 ++ (tl_w6 ++ (tl_w7 ++ (tl_w8 ++ (tl_w9 ++ (tl_w10 ++ (tl_w11 ++ (tl_w12 ++ (tl_w13 ++ (tl_w14 ++ (tl_w15 ++ (tl_w16 ++ (tl_w17)))))))))))))))))
theorem tl_in0 : ∀ w ∈ tl_w0, w ∈ tl_ws := fun w h => List.mem_append_left _ h
theorem tl_in1 : ∀ w ∈ tl_w1, w ∈ tl_ws := fun w h => List.mem_append_right _ (List.mem_append_left _ h)
theorem tl_in2 : ∀ w ∈ tl_w2, w ∈ tl_ws := fun w h => List.mem_append_right _ (List.mem_append_right _ (List.mem_append_left _ h))
theorem tl_in3 : ∀ w ∈ tl_w3, w ∈ tl_ws := fun w h => List.mem_append_right _ (List.mem_append_right _ (List.mem_append_right _ (List.mem_append_left _ h)))
theorem tl_in4 : ∀ w ∈ tl_w4, w ∈ tl_ws := fun w h => List.mem_append_right _ (List.mem_append_right _ (List.mem_append_right _ (List.mem_append_right _ (List.mem_append_left _ h))))
theorem tl_in5 : ∀ w ∈ tl_w5, w ∈ tl_ws := fun w h => List.mem_append_right _ (List.mem_append_right _ (List.mem_append_right _ (List.mem_append_right _ (List.mem_append_right _ (List.mem_append_left _ h)))))
theorem tl_in6 : ∀ w ∈ tl_w6, w ∈ tl_ws := fun w h => List.mem_append_right _ (List.mem_append_right _ (List.mem_append_right _ (List.mem_append_right _ (List.mem_append_right _ (List.mem_append_right _ (List.mem_append_left _ h))))))
theorem tl_in7 : ∀ w ∈ tl_w7, w ∈ tl_ws := fun w h => List.mem_append_right _ (List.mem_append_right _ (List.mem_append_right _ (List.mem_append_right _ (List.mem_append_right _ (List.mem_append_right _ (List.mem_append_right _ (List.mem_append_left _ h)))))))
theorem tl_in8 : ∀ w ∈ tl_w8, w ∈ tl_ws := fun w h => List.mem_append_right _ (List.mem_append_right _ (List.mem_append_right _ (List.mem_append_right _ (List.mem_append_right _ (List.mem_append_right _ (List.mem_append_right _ (List.mem_append_right _ (List.mem_append_left _ h))))))))
theorem tl_in9 : ∀ w ∈ tl_w9, w ∈ tl_ws := fun w h => List.mem_append_right _ (List.mem_append_right _ (List.mem_append_right _ (List.mem_append_right _ (List.mem_append_right _ (List.mem_append_right _ (List.mem_append_right _ (List.mem_append_right _ (List.mem_append_right _ (List.mem_append_left _ h)))))))))
theorem tl_in10 : ∀ w ∈ tl_w10, w ∈ tl_ws := fun w h => List.mem_append_right _ (List.mem_append_right _ (List.mem_append_right _ (List.mem_append_right _ (List.mem_append_right _ (List.mem_append_right _ (List.mem_append_right _ (List.mem_append_right _ (List.mem_append_right _ (List.mem_append_right _ (List.mem_append_left _ h))))))))))
theorem tl_in11 : ∀ w ∈ tl_w11, w ∈ tl_ws := fun w h => List.mem_append_right _ (List.mem_append_right _ (List.mem_append_right _ (List.mem_append_right _ (List.mem_append_right _ (List.mem_append_right _ (List.mem_append_right _ (List.mem_append_right _ (List.mem_append_right _ (List.mem_append_right _ (List.mem_append_right _ (List.mem_append_left _ h)))))))))))
theorem tl_in12 : ∀ w ∈ tl_w12, w ∈ tl_ws := fun w h => List.mem_append_right _ (List.mem_append_right _ (List.mem_append_right _ (List.mem_append_right _ (List.mem_append_right _ (List.mem_append_right _ (List.mem_append_right _ (List.mem_append_right _ (List.mem_append_right _ (List.mem_append_right _ (List.mem_append_right _ (List.mem_append_right _ (List.mem_append_left _ h))))))))))))
theorem tl_in13 : ∀ w ∈ tl_w13, w ∈ tl_ws := fun w h => List.mem_append_right _ (List.mem_append_right _ (List.mem_append_right _ (List.mem_append_right _ (List.mem_append_right _ (List.mem_append_right _ (List.mem_append_right _ (List.mem_append_right _ (List.mem_append_right _ (List.mem_append_right _ (List.mem_append_right _ (List.mem_append_right _ (List.mem_append_right _ (List.mem_append_left _ h)))))))))))))
theorem tl_in14 : ∀ w ∈ tl_w14, w ∈ tl_ws := fun w h => List.mem_append_right _ (List.mem_append_right _ (List.mem_append_right _ (List.mem_append_right _ (List.mem_append_right _ (List.mem_append_right _ (List.mem_append_right _ (List.mem_append_right _ (List.mem_append_right _ (List.mem_append_right _ (List.mem_append_right _ (List.mem_append_right _ (List.mem_append_right _ (List.mem_append_right _ (List.mem_append_left _ h))))))))))))))
theorem tl_in15 : ∀ w ∈ tl_w15, w ∈ tl_ws := fun w h => List.mem_append_right _ (List.mem_append_right _ (List.mem_append_right _ (List.mem_append_right _ (List.mem_append_right _ (List.mem_append_right _ (List.mem_append_right _ (List.mem_append_right _ (List.mem_append_right _ (List.mem_append_right _ (List.mem_append_right _ (List.mem_append_right _ (List.mem_append_right _ (List.mem_append_right _ (List.mem_append_right _ (List.mem_append_left _ h)))))))))))))))
theorem tl_in16 : ∀ w ∈ tl_w16, w ∈ tl_ws := fun w h => List.mem_append_right _ (List.mem_append_right _ (List.mem_append_right _ (List.mem_append_right _ (List.mem_append_right _ (List.mem_append_right _ (List.mem_append_right _ (List.mem_append_right _ (List.mem_append_right _ (List.mem_append_right _ (List.mem_append_right _ (List.mem_append_right _ (List.mem_append_right _ (List.mem_append_right _ (List.mem_append_right _ (List.mem_append_right _ (List.mem_append_left _ h))))))))))))))))
theorem tl_in17 : ∀ w ∈ tl_w17, w ∈ tl_ws := fun w h => List.mem_append_right _ (List.mem_append_right _ (List.mem_append_right _ (List.mem_append_right _ (List.mem_append_right _ (List.mem_append_right _ (List.mem_append_right _ (List.mem_append_right _ (List.mem_append_right _ (List.mem_append_right _ (List.mem_append_right _ (List.mem_append_right _ (List.mem_append_right _ (List.mem_append_right _ (List.mem_append_right _ (List.mem_append_right _ (List.mem_append_right _ (h)))))))))))))))))
theorem tl_m0 : (.initialized R_L : Cond) ∈ tl_ws := tl_in0 _ (List.mem_of_getElem? (i := 0) rfl)
theorem tl_m1 : (.initialized R_T : Cond) ∈ tl_ws := tl_in0 _ (List.mem_of_getElem? (i := 1) rfl)
theorem tl_m2 : (.initialized R_D : Cond) ∈ tl_ws := tl_in0 _ (List.mem_of_getElem? (i := 2) rfl)
theorem tl_m3 : (.initialized R_M : Cond) ∈ tl_ws := tl_in0 _ (List.mem_of_getElem? (i := 3) rfl)
theorem tl_m4 : (.initialized R_H : Cond) ∈ tl_ws := tl_in0 _ (List.mem_of_getElem? (i := 4) rfl)
theorem tl_m5 : (.initialized "java/lang/System" : Cond) ∈ tl_ws := tl_in0 _ (List.mem_of_getElem? (i := 5) rfl)
theorem tl_m6 : (.classLink R_L 7 R_T : Cond) ∈ tl_ws := tl_in0 _ (List.mem_of_getElem? (i := 6) rfl)
theorem tl_m7 : (.instantiable R_T 5 : Cond) ∈ tl_ws := tl_in0 _ (List.mem_of_getElem? (i := 7) rfl)
theorem tl_m8 : (.methodLink R_L 9 y_T_init : Cond) ∈ tl_ws := tl_in0 _ (List.mem_of_getElem? (i := 8) rfl)
theorem tl_m9 : (.instanceMethod y_T_init : Cond) ∈ tl_ws := tl_in0 _ (List.mem_of_getElem? (i := 9) rfl)
theorem tl_m10 : (k_T_init : Cond) ∈ tl_ws := tl_in0 _ (List.mem_of_getElem? (i := 10) rfl)
theorem tl_m11 : (.methodLink R_T 1 objectInit : Cond) ∈ tl_ws := tl_in0 _ (List.mem_of_getElem? (i := 11) rfl)
theorem tl_m12 : (.instanceMethod objectInit : Cond) ∈ tl_ws := tl_in0 _ (List.mem_of_getElem? (i := 12) rfl)
theorem tl_m13 : (.code objectInit ⟨#[0xb1]⟩ 1 none : Cond) ∈ tl_ws := tl_in0 _ (List.mem_of_getElem? (i := 13) rfl)
theorem tl_m14 : (.classLink R_T 7 R_D : Cond) ∈ tl_ws := tl_in0 _ (List.mem_of_getElem? (i := 14) rfl)
theorem tl_m15 : (.instantiable R_D 10 : Cond) ∈ tl_ws := tl_in0 _ (List.mem_of_getElem? (i := 15) rfl)
theorem tl_m16 : (.instanceMethod y_D_init : Cond) ∈ tl_ws := tl_in0 _ (List.mem_of_getElem? (i := 16) rfl)
theorem tl_m17 : (k_D_init : Cond) ∈ tl_ws := tl_in0 _ (List.mem_of_getElem? (i := 17) rfl)
theorem tl_m18 : (.methodLink R_D 3 objectInit : Cond) ∈ tl_ws := tl_in0 _ (List.mem_of_getElem? (i := 18) rfl)
theorem tl_m19 : (.classLink R_D 15 "[[J" : Cond) ∈ tl_ws := tl_in0 _ (List.mem_of_getElem? (i := 19) rfl)
theorem tl_m20 : (.fieldLink R_D 9 "TileLog$Disk" "entries" "[J" : Cond) ∈ tl_ws := tl_in0 _ (List.mem_of_getElem? (i := 20) rfl)
theorem tl_m21 : (.fieldLink R_D 17 "TileLog$Disk" "tiles" "[[J" : Cond) ∈ tl_ws := tl_in0 _ (List.mem_of_getElem? (i := 21) rfl)
theorem tl_m22 : (.fieldLink R_D 20 "TileLog$Disk" "headNumbers" "[I" : Cond) ∈ tl_ws := tl_in0 _ (List.mem_of_getElem? (i := 22) rfl)
theorem tl_m23 : (.fieldLink R_D 24 "TileLog$Disk" "headSizes" "[I" : Cond) ∈ tl_ws := tl_in0 _ (List.mem_of_getElem? (i := 23) rfl)
theorem tl_m24 : (.fieldLink R_D 27 "TileLog$Disk" "headRoots" "[J" : Cond) ∈ tl_ws := tl_in1 _ (List.mem_of_getElem? (i := 0) rfl)
theorem tl_m25 : (.fieldLink R_D 30 "TileLog$Disk" "rightTile" "[J" : Cond) ∈ tl_ws := tl_in1 _ (List.mem_of_getElem? (i := 1) rfl)
theorem tl_m26 : (.fieldLink R_D 33 "TileLog$Disk" "filled" "I" : Cond) ∈ tl_ws := tl_in1 _ (List.mem_of_getElem? (i := 2) rfl)
theorem tl_m27 : (.fieldLink R_D 37 "TileLog$Disk" "writesMade" "I" : Cond) ∈ tl_ws := tl_in1 _ (List.mem_of_getElem? (i := 3) rfl)
theorem tl_m28 : (.fieldLink R_D 40 "TileLog$Disk" "writesBeforeCrash" "I" : Cond) ∈ tl_ws := tl_in1 _ (List.mem_of_getElem? (i := 4) rfl)
theorem tl_m29 : (.fieldLink R_D 43 "TileLog$Disk" "down" "Z" : Cond) ∈ tl_ws := tl_in1 _ (List.mem_of_getElem? (i := 5) rfl)
theorem tl_m30 : (.arrayClass .long : Cond) ∈ tl_ws := tl_in1 _ (List.mem_of_getElem? (i := 6) rfl)
theorem tl_m31 : (.arrayClass .int : Cond) ∈ tl_ws := tl_in1 _ (List.mem_of_getElem? (i := 7) rfl)
theorem tl_m32 : (.fieldLink R_T 10 "TileLog" "disk" "LTileLog$Disk;" : Cond) ∈ tl_ws := tl_in1 _ (List.mem_of_getElem? (i := 8) rfl)
theorem tl_m33 : (.fieldLink R_T 16 "TileLog" "proofHashes" "[J" : Cond) ∈ tl_ws := tl_in1 _ (List.mem_of_getElem? (i := 9) rfl)
theorem tl_m34 : (.fieldLink R_T 20 "TileLog" "proofLength" "I" : Cond) ∈ tl_ws := tl_in1 _ (List.mem_of_getElem? (i := 10) rfl)
theorem tl_m35 : (.fieldLink R_T 24 "TileLog" "offerHashes" "[J" : Cond) ∈ tl_ws := tl_in1 _ (List.mem_of_getElem? (i := 11) rfl)
theorem tl_m36 : (.fieldLink R_T 27 "TileLog" "offerLength" "I" : Cond) ∈ tl_ws := tl_in1 _ (List.mem_of_getElem? (i := 12) rfl)
theorem tl_m37 : (.methodLink R_L 15 y_T_append : Cond) ∈ tl_ws := tl_in1 _ (List.mem_of_getElem? (i := 13) rfl)
theorem tl_m38 : (.instanceMethod y_T_append : Cond) ∈ tl_ws := tl_in1 _ (List.mem_of_getElem? (i := 14) rfl)
theorem tl_m39 : (.selects R_T y_T_append y_T_append : Cond) ∈ tl_ws := tl_in1 _ (List.mem_of_getElem? (i := 15) rfl)
theorem tl_m40 : (k_T_append : Cond) ∈ tl_ws := tl_in1 _ (List.mem_of_getElem? (i := 16) rfl)
theorem tl_m41 : (.instanceMethod y_D_writeEntry : Cond) ∈ tl_ws := tl_in1 _ (List.mem_of_getElem? (i := 17) rfl)
theorem tl_m42 : (k_D_writeEntry : Cond) ∈ tl_ws := tl_in1 _ (List.mem_of_getElem? (i := 18) rfl)
theorem tl_m43 : (.methodLink R_D 51 y_D_beginWrite : Cond) ∈ tl_ws := tl_in1 _ (List.mem_of_getElem? (i := 19) rfl)
theorem tl_m44 : (.instanceMethod y_D_beginWrite : Cond) ∈ tl_ws := tl_in1 _ (List.mem_of_getElem? (i := 20) rfl)
theorem tl_m45 : (k_D_beginWrite : Cond) ∈ tl_ws := tl_in1 _ (List.mem_of_getElem? (i := 21) rfl)
theorem tl_m46 : (.methodLink R_L 20 y_T_publish : Cond) ∈ tl_ws := tl_in1 _ (List.mem_of_getElem? (i := 22) rfl)
theorem tl_m47 : (.instanceMethod y_T_publish : Cond) ∈ tl_ws := tl_in1 _ (List.mem_of_getElem? (i := 23) rfl)
theorem tl_m48 : (.selects R_T y_T_publish y_T_publish : Cond) ∈ tl_ws := tl_in2 _ (List.mem_of_getElem? (i := 0) rfl)
theorem tl_m49 : (k_T_publish : Cond) ∈ tl_ws := tl_in2 _ (List.mem_of_getElem? (i := 1) rfl)
theorem tl_m50 : (.instanceMethod y_D_publishedSize : Cond) ∈ tl_ws := tl_in2 _ (List.mem_of_getElem? (i := 2) rfl)
theorem tl_m51 : (k_D_publishedSize : Cond) ∈ tl_ws := tl_in2 _ (List.mem_of_getElem? (i := 3) rfl)
theorem tl_m52 : (.methodLink R_D 47 y_D_latestPlace : Cond) ∈ tl_ws := tl_in2 _ (List.mem_of_getElem? (i := 4) rfl)
theorem tl_m53 : (.instanceMethod y_D_latestPlace : Cond) ∈ tl_ws := tl_in2 _ (List.mem_of_getElem? (i := 5) rfl)
theorem tl_m54 : (k_D_latestPlace : Cond) ∈ tl_ws := tl_in2 _ (List.mem_of_getElem? (i := 6) rfl)
theorem tl_m55 : (.instanceMethod y_D_writeTilesFor : Cond) ∈ tl_ws := tl_in2 _ (List.mem_of_getElem? (i := 7) rfl)
theorem tl_m56 : (k_D_writeTilesFor : Cond) ∈ tl_ws := tl_in2 _ (List.mem_of_getElem? (i := 8) rfl)
theorem tl_m57 : (.methodLink R_D 55 y_D_isRight : Cond) ∈ tl_ws := tl_in2 _ (List.mem_of_getElem? (i := 9) rfl)
theorem tl_m58 : (.instanceMethod y_D_isRight : Cond) ∈ tl_ws := tl_in2 _ (List.mem_of_getElem? (i := 10) rfl)
theorem tl_m59 : (k_D_isRight : Cond) ∈ tl_ws := tl_in2 _ (List.mem_of_getElem? (i := 11) rfl)
theorem tl_m60 : (.methodLink R_D 63 y_D_leafBelow : Cond) ∈ tl_ws := tl_in2 _ (List.mem_of_getElem? (i := 12) rfl)
theorem tl_m61 : (.instanceMethod y_D_leafBelow : Cond) ∈ tl_ws := tl_in2 _ (List.mem_of_getElem? (i := 13) rfl)
theorem tl_m62 : (k_D_leafBelow : Cond) ∈ tl_ws := tl_in2 _ (List.mem_of_getElem? (i := 14) rfl)
theorem tl_m63 : (.static y_H_ofLeaf : Cond) ∈ tl_ws := tl_in2 _ (List.mem_of_getElem? (i := 15) rfl)
theorem tl_m64 : (k_H_ofLeaf : Cond) ∈ tl_ws := tl_in2 _ (List.mem_of_getElem? (i := 16) rfl)
theorem tl_m65 : (.constantLong R_H 15 (7) : Cond) ∈ tl_ws := tl_in2 _ (List.mem_of_getElem? (i := 17) rfl)
theorem tl_m66 : (.methodLink R_H 17 y_H_mix : Cond) ∈ tl_ws := tl_in2 _ (List.mem_of_getElem? (i := 18) rfl)
theorem tl_m67 : (.static y_H_mix : Cond) ∈ tl_ws := tl_in2 _ (List.mem_of_getElem? (i := 19) rfl)
theorem tl_m68 : (k_H_mix : Cond) ∈ tl_ws := tl_in2 _ (List.mem_of_getElem? (i := 20) rfl)
theorem tl_m69 : (.constantLong R_H 11 (5871781006564002453) : Cond) ∈ tl_ws := tl_in2 _ (List.mem_of_getElem? (i := 21) rfl)
theorem tl_m70 : (.constantLong R_H 13 (1181783497276652981) : Cond) ∈ tl_ws := tl_in2 _ (List.mem_of_getElem? (i := 22) rfl)
theorem tl_m71 : (.methodLink R_D 67 y_D_groupBelow : Cond) ∈ tl_ws := tl_in2 _ (List.mem_of_getElem? (i := 23) rfl)
theorem tl_m72 : (.instanceMethod y_D_groupBelow : Cond) ∈ tl_ws := tl_in3 _ (List.mem_of_getElem? (i := 0) rfl)
theorem tl_m73 : (k_D_groupBelow : Cond) ∈ tl_ws := tl_in3 _ (List.mem_of_getElem? (i := 1) rfl)
theorem tl_m74 : (.static y_H_ofRow : Cond) ∈ tl_ws := tl_in3 _ (List.mem_of_getElem? (i := 2) rfl)
theorem tl_m75 : (k_H_ofRow : Cond) ∈ tl_ws := tl_in3 _ (List.mem_of_getElem? (i := 3) rfl)
theorem tl_m76 : (.methodLink R_H 23 y_H_ofLeaf : Cond) ∈ tl_ws := tl_in3 _ (List.mem_of_getElem? (i := 4) rfl)
theorem tl_m77 : (.methodLink R_H 27 y_H_half : Cond) ∈ tl_ws := tl_in3 _ (List.mem_of_getElem? (i := 5) rfl)
theorem tl_m78 : (.static y_H_half : Cond) ∈ tl_ws := tl_in3 _ (List.mem_of_getElem? (i := 6) rfl)
theorem tl_m79 : (k_H_half : Cond) ∈ tl_ws := tl_in3 _ (List.mem_of_getElem? (i := 7) rfl)
theorem tl_m80 : (.methodLink R_H 31 y_H_ofRow : Cond) ∈ tl_ws := tl_in3 _ (List.mem_of_getElem? (i := 8) rfl)
theorem tl_m81 : (.methodLink R_H 35 y_H_ofNode : Cond) ∈ tl_ws := tl_in3 _ (List.mem_of_getElem? (i := 9) rfl)
theorem tl_m82 : (.static y_H_ofNode : Cond) ∈ tl_ws := tl_in3 _ (List.mem_of_getElem? (i := 10) rfl)
theorem tl_m83 : (k_H_ofNode : Cond) ∈ tl_ws := tl_in3 _ (List.mem_of_getElem? (i := 11) rfl)
theorem tl_m84 : (.constantLong R_H 21 (2) : Cond) ∈ tl_ws := tl_in3 _ (List.mem_of_getElem? (i := 12) rfl)
theorem tl_m85 : (.methodLink R_D 59 y_D_writeTile : Cond) ∈ tl_ws := tl_in3 _ (List.mem_of_getElem? (i := 13) rfl)
theorem tl_m86 : (.instanceMethod y_D_writeTile : Cond) ∈ tl_ws := tl_in3 _ (List.mem_of_getElem? (i := 14) rfl)
theorem tl_m87 : (k_D_writeTile : Cond) ∈ tl_ws := tl_in3 _ (List.mem_of_getElem? (i := 15) rfl)
theorem tl_m88 : (.methodLink R_D 80 arraycopyName : Cond) ∈ tl_ws := tl_in3 _ (List.mem_of_getElem? (i := 16) rfl)
theorem tl_m89 : (.static arraycopyName : Cond) ∈ tl_ws := tl_in3 _ (List.mem_of_getElem? (i := 17) rfl)
theorem tl_m90 : (.native arraycopyName : Cond) ∈ tl_ws := tl_in3 _ (List.mem_of_getElem? (i := 18) rfl)
theorem tl_m91 : (.instanceMethod y_D_latestNumber : Cond) ∈ tl_ws := tl_in3 _ (List.mem_of_getElem? (i := 19) rfl)
theorem tl_m92 : (k_D_latestNumber : Cond) ∈ tl_ws := tl_in3 _ (List.mem_of_getElem? (i := 20) rfl)
theorem tl_m93 : (.instanceMethod y_D_writeHead : Cond) ∈ tl_ws := tl_in3 _ (List.mem_of_getElem? (i := 21) rfl)
theorem tl_m94 : (k_D_writeHead : Cond) ∈ tl_ws := tl_in3 _ (List.mem_of_getElem? (i := 22) rfl)
theorem tl_m95 : (.methodLink R_L 25 y_T_order : Cond) ∈ tl_ws := tl_in3 _ (List.mem_of_getElem? (i := 23) rfl)
theorem tl_m96 : (.instanceMethod y_T_order : Cond) ∈ tl_ws := tl_in4 _ (List.mem_of_getElem? (i := 0) rfl)
theorem tl_m97 : (.selects R_T y_T_order y_T_order : Cond) ∈ tl_ws := tl_in4 _ (List.mem_of_getElem? (i := 1) rfl)
theorem tl_m98 : (k_T_order : Cond) ∈ tl_ws := tl_in4 _ (List.mem_of_getElem? (i := 2) rfl)
theorem tl_m99 : (.methodLink R_L 30 y_T_recover : Cond) ∈ tl_ws := tl_in4 _ (List.mem_of_getElem? (i := 3) rfl)
theorem tl_m100 : (.instanceMethod y_T_recover : Cond) ∈ tl_ws := tl_in4 _ (List.mem_of_getElem? (i := 4) rfl)
theorem tl_m101 : (.selects R_T y_T_recover y_T_recover : Cond) ∈ tl_ws := tl_in4 _ (List.mem_of_getElem? (i := 5) rfl)
theorem tl_m102 : (k_T_recover : Cond) ∈ tl_ws := tl_in4 _ (List.mem_of_getElem? (i := 6) rfl)
theorem tl_m103 : (.methodLink R_L 34 y_T_writes : Cond) ∈ tl_ws := tl_in4 _ (List.mem_of_getElem? (i := 7) rfl)
theorem tl_m104 : (.instanceMethod y_T_writes : Cond) ∈ tl_ws := tl_in4 _ (List.mem_of_getElem? (i := 8) rfl)
theorem tl_m105 : (.selects R_T y_T_writes y_T_writes : Cond) ∈ tl_ws := tl_in4 _ (List.mem_of_getElem? (i := 9) rfl)
theorem tl_m106 : (k_T_writes : Cond) ∈ tl_ws := tl_in4 _ (List.mem_of_getElem? (i := 10) rfl)
theorem tl_m107 : (.methodLink R_L 38 y_T_length : Cond) ∈ tl_ws := tl_in4 _ (List.mem_of_getElem? (i := 11) rfl)
theorem tl_m108 : (.instanceMethod y_T_length : Cond) ∈ tl_ws := tl_in4 _ (List.mem_of_getElem? (i := 12) rfl)
theorem tl_m109 : (.selects R_T y_T_length y_T_length : Cond) ∈ tl_ws := tl_in4 _ (List.mem_of_getElem? (i := 13) rfl)
theorem tl_m110 : (k_T_length : Cond) ∈ tl_ws := tl_in4 _ (List.mem_of_getElem? (i := 14) rfl)
theorem tl_m111 : (.methodLink R_L 42 y_T_size : Cond) ∈ tl_ws := tl_in4 _ (List.mem_of_getElem? (i := 15) rfl)
theorem tl_m112 : (.instanceMethod y_T_size : Cond) ∈ tl_ws := tl_in4 _ (List.mem_of_getElem? (i := 16) rfl)
theorem tl_m113 : (.selects R_T y_T_size y_T_size : Cond) ∈ tl_ws := tl_in4 _ (List.mem_of_getElem? (i := 17) rfl)
theorem tl_m114 : (k_T_size : Cond) ∈ tl_ws := tl_in4 _ (List.mem_of_getElem? (i := 18) rfl)
theorem tl_m115 : (.instanceMethod y_D_hasHead : Cond) ∈ tl_ws := tl_in4 _ (List.mem_of_getElem? (i := 19) rfl)
theorem tl_m116 : (k_D_hasHead : Cond) ∈ tl_ws := tl_in4 _ (List.mem_of_getElem? (i := 20) rfl)
theorem tl_m117 : (.methodLink R_L 47 y_T_root : Cond) ∈ tl_ws := tl_in4 _ (List.mem_of_getElem? (i := 21) rfl)
theorem tl_m118 : (.instanceMethod y_T_root : Cond) ∈ tl_ws := tl_in4 _ (List.mem_of_getElem? (i := 22) rfl)
theorem tl_m119 : (.selects R_T y_T_root y_T_root : Cond) ∈ tl_ws := tl_in4 _ (List.mem_of_getElem? (i := 23) rfl)
theorem tl_m120 : (k_T_root : Cond) ∈ tl_ws := tl_in5 _ (List.mem_of_getElem? (i := 0) rfl)
theorem tl_m121 : (.methodLink R_L 52 y_T_latest : Cond) ∈ tl_ws := tl_in5 _ (List.mem_of_getElem? (i := 1) rfl)
theorem tl_m122 : (.instanceMethod y_T_latest : Cond) ∈ tl_ws := tl_in5 _ (List.mem_of_getElem? (i := 2) rfl)
theorem tl_m123 : (.selects R_T y_T_latest y_T_latest : Cond) ∈ tl_ws := tl_in5 _ (List.mem_of_getElem? (i := 3) rfl)
theorem tl_m124 : (k_T_latest : Cond) ∈ tl_ws := tl_in5 _ (List.mem_of_getElem? (i := 4) rfl)
theorem tl_m125 : (.methodLink R_L 56 y_T_tile : Cond) ∈ tl_ws := tl_in5 _ (List.mem_of_getElem? (i := 5) rfl)
theorem tl_m126 : (.instanceMethod y_T_tile : Cond) ∈ tl_ws := tl_in5 _ (List.mem_of_getElem? (i := 6) rfl)
theorem tl_m127 : (.selects R_T y_T_tile y_T_tile : Cond) ∈ tl_ws := tl_in5 _ (List.mem_of_getElem? (i := 7) rfl)
theorem tl_m128 : (k_T_tile : Cond) ∈ tl_ws := tl_in5 _ (List.mem_of_getElem? (i := 8) rfl)
theorem tl_m129 : (.methodLink R_L 61 y_T_entry : Cond) ∈ tl_ws := tl_in5 _ (List.mem_of_getElem? (i := 9) rfl)
theorem tl_m130 : (.instanceMethod y_T_entry : Cond) ∈ tl_ws := tl_in5 _ (List.mem_of_getElem? (i := 10) rfl)
theorem tl_m131 : (.selects R_T y_T_entry y_T_entry : Cond) ∈ tl_ws := tl_in5 _ (List.mem_of_getElem? (i := 11) rfl)
theorem tl_m132 : (k_T_entry : Cond) ∈ tl_ws := tl_in5 _ (List.mem_of_getElem? (i := 12) rfl)
theorem tl_m133 : (.methodLink R_L 65 y_T_find : Cond) ∈ tl_ws := tl_in5 _ (List.mem_of_getElem? (i := 13) rfl)
theorem tl_m134 : (.instanceMethod y_T_find : Cond) ∈ tl_ws := tl_in5 _ (List.mem_of_getElem? (i := 14) rfl)
theorem tl_m135 : (.selects R_T y_T_find y_T_find : Cond) ∈ tl_ws := tl_in5 _ (List.mem_of_getElem? (i := 15) rfl)
theorem tl_m136 : (k_T_find : Cond) ∈ tl_ws := tl_in5 _ (List.mem_of_getElem? (i := 16) rfl)
theorem tl_m137 : (.methodLink R_L 69 y_T_rootOf : Cond) ∈ tl_ws := tl_in5 _ (List.mem_of_getElem? (i := 17) rfl)
theorem tl_m138 : (.instanceMethod y_T_rootOf : Cond) ∈ tl_ws := tl_in5 _ (List.mem_of_getElem? (i := 18) rfl)
theorem tl_m139 : (.selects R_T y_T_rootOf y_T_rootOf : Cond) ∈ tl_ws := tl_in5 _ (List.mem_of_getElem? (i := 19) rfl)
theorem tl_m140 : (k_T_rootOf : Cond) ∈ tl_ws := tl_in5 _ (List.mem_of_getElem? (i := 20) rfl)
theorem tl_m141 : (.methodLink R_L 73 y_T_include : Cond) ∈ tl_ws := tl_in5 _ (List.mem_of_getElem? (i := 21) rfl)
theorem tl_m142 : (.instanceMethod y_T_include : Cond) ∈ tl_ws := tl_in5 _ (List.mem_of_getElem? (i := 22) rfl)
theorem tl_m143 : (.selects R_T y_T_include y_T_include : Cond) ∈ tl_ws := tl_in5 _ (List.mem_of_getElem? (i := 23) rfl)
theorem tl_m144 : (k_T_include : Cond) ∈ tl_ws := tl_in6 _ (List.mem_of_getElem? (i := 0) rfl)
theorem tl_m145 : (.methodLink R_T 89 y_T_addPath : Cond) ∈ tl_ws := tl_in6 _ (List.mem_of_getElem? (i := 1) rfl)
theorem tl_m146 : (.instanceMethod y_T_addPath : Cond) ∈ tl_ws := tl_in6 _ (List.mem_of_getElem? (i := 2) rfl)
theorem tl_m147 : (k_T_addPath : Cond) ∈ tl_ws := tl_in6 _ (List.mem_of_getElem? (i := 3) rfl)
theorem tl_m148 : (.methodLink R_T 124 y_T_addToProof : Cond) ∈ tl_ws := tl_in6 _ (List.mem_of_getElem? (i := 4) rfl)
theorem tl_m149 : (.instanceMethod y_T_addToProof : Cond) ∈ tl_ws := tl_in6 _ (List.mem_of_getElem? (i := 5) rfl)
theorem tl_m150 : (k_T_addToProof : Cond) ∈ tl_ws := tl_in6 _ (List.mem_of_getElem? (i := 6) rfl)
theorem tl_m151 : (.methodLink R_L 78 y_T_extend : Cond) ∈ tl_ws := tl_in6 _ (List.mem_of_getElem? (i := 7) rfl)
theorem tl_m152 : (.instanceMethod y_T_extend : Cond) ∈ tl_ws := tl_in6 _ (List.mem_of_getElem? (i := 8) rfl)
theorem tl_m153 : (.selects R_T y_T_extend y_T_extend : Cond) ∈ tl_ws := tl_in6 _ (List.mem_of_getElem? (i := 9) rfl)
theorem tl_m154 : (k_T_extend : Cond) ∈ tl_ws := tl_in6 _ (List.mem_of_getElem? (i := 10) rfl)
theorem tl_m155 : (.methodLink R_T 93 y_T_addBridge : Cond) ∈ tl_ws := tl_in6 _ (List.mem_of_getElem? (i := 11) rfl)
theorem tl_m156 : (.instanceMethod y_T_addBridge : Cond) ∈ tl_ws := tl_in6 _ (List.mem_of_getElem? (i := 12) rfl)
theorem tl_m157 : (k_T_addBridge : Cond) ∈ tl_ws := tl_in6 _ (List.mem_of_getElem? (i := 13) rfl)
theorem tl_m158 : (.methodLink R_L 82 y_T_proof : Cond) ∈ tl_ws := tl_in6 _ (List.mem_of_getElem? (i := 14) rfl)
theorem tl_m159 : (.instanceMethod y_T_proof : Cond) ∈ tl_ws := tl_in6 _ (List.mem_of_getElem? (i := 15) rfl)
theorem tl_m160 : (.selects R_T y_T_proof y_T_proof : Cond) ∈ tl_ws := tl_in6 _ (List.mem_of_getElem? (i := 16) rfl)
theorem tl_m161 : (k_T_proof : Cond) ∈ tl_ws := tl_in6 _ (List.mem_of_getElem? (i := 17) rfl)
theorem tl_m162 : (.methodLink R_L 86 y_T_offer : Cond) ∈ tl_ws := tl_in6 _ (List.mem_of_getElem? (i := 18) rfl)
theorem tl_m163 : (.instanceMethod y_T_offer : Cond) ∈ tl_ws := tl_in6 _ (List.mem_of_getElem? (i := 19) rfl)
theorem tl_m164 : (.selects R_T y_T_offer y_T_offer : Cond) ∈ tl_ws := tl_in6 _ (List.mem_of_getElem? (i := 20) rfl)
theorem tl_m165 : (k_T_offer : Cond) ∈ tl_ws := tl_in6 _ (List.mem_of_getElem? (i := 21) rfl)
theorem tl_m166 : (.methodLink R_L 91 y_T_offers : Cond) ∈ tl_ws := tl_in6 _ (List.mem_of_getElem? (i := 22) rfl)
theorem tl_m167 : (.instanceMethod y_T_offers : Cond) ∈ tl_ws := tl_in6 _ (List.mem_of_getElem? (i := 23) rfl)
theorem tl_m168 : (.selects R_T y_T_offers y_T_offers : Cond) ∈ tl_ws := tl_in7 _ (List.mem_of_getElem? (i := 0) rfl)
theorem tl_m169 : (k_T_offers : Cond) ∈ tl_ws := tl_in7 _ (List.mem_of_getElem? (i := 1) rfl)
theorem tl_m170 : (.methodLink R_L 95 y_T_shows : Cond) ∈ tl_ws := tl_in7 _ (List.mem_of_getElem? (i := 2) rfl)
theorem tl_m171 : (.instanceMethod y_T_shows : Cond) ∈ tl_ws := tl_in7 _ (List.mem_of_getElem? (i := 3) rfl)
theorem tl_m172 : (.selects R_T y_T_shows y_T_shows : Cond) ∈ tl_ws := tl_in7 _ (List.mem_of_getElem? (i := 4) rfl)
theorem tl_m173 : (k_T_shows : Cond) ∈ tl_ws := tl_in7 _ (List.mem_of_getElem? (i := 5) rfl)
theorem tl_m174 : (.constant R_T 97 (1000000) : Cond) ∈ tl_ws := tl_in7 _ (List.mem_of_getElem? (i := 6) rfl)
theorem tl_m175 : (.methodLink R_T 98 y_T_standsLeft : Cond) ∈ tl_ws := tl_in7 _ (List.mem_of_getElem? (i := 7) rfl)
theorem tl_m176 : (.static y_T_standsLeft : Cond) ∈ tl_ws := tl_in7 _ (List.mem_of_getElem? (i := 8) rfl)
theorem tl_m177 : (k_T_standsLeft : Cond) ∈ tl_ws := tl_in7 _ (List.mem_of_getElem? (i := 9) rfl)
theorem tl_m178 : (.methodLink R_T 106 y_T_levelsClimbed : Cond) ∈ tl_ws := tl_in7 _ (List.mem_of_getElem? (i := 10) rfl)
theorem tl_m179 : (.static y_T_levelsClimbed : Cond) ∈ tl_ws := tl_in7 _ (List.mem_of_getElem? (i := 11) rfl)
theorem tl_m180 : (k_T_levelsClimbed : Cond) ∈ tl_ws := tl_in7 _ (List.mem_of_getElem? (i := 12) rfl)
theorem tl_m181 : (.methodLink R_T 117 y_T_zerosAtEnd : Cond) ∈ tl_ws := tl_in7 _ (List.mem_of_getElem? (i := 13) rfl)
theorem tl_m182 : (.static y_T_zerosAtEnd : Cond) ∈ tl_ws := tl_in7 _ (List.mem_of_getElem? (i := 14) rfl)
theorem tl_m183 : (k_T_zerosAtEnd : Cond) ∈ tl_ws := tl_in7 _ (List.mem_of_getElem? (i := 15) rfl)
theorem tl_m184 : (.methodLink R_L 100 y_T_leads : Cond) ∈ tl_ws := tl_in7 _ (List.mem_of_getElem? (i := 16) rfl)
theorem tl_m185 : (.instanceMethod y_T_leads : Cond) ∈ tl_ws := tl_in7 _ (List.mem_of_getElem? (i := 17) rfl)
theorem tl_m186 : (.selects R_T y_T_leads y_T_leads : Cond) ∈ tl_ws := tl_in7 _ (List.mem_of_getElem? (i := 18) rfl)
theorem tl_m187 : (k_T_leads : Cond) ∈ tl_ws := tl_in7 _ (List.mem_of_getElem? (i := 19) rfl)
theorem tl_m188 : (.methodLink R_T 110 y_T_isPowerOfTwo : Cond) ∈ tl_ws := tl_in7 _ (List.mem_of_getElem? (i := 20) rfl)
theorem tl_m189 : (.static y_T_isPowerOfTwo : Cond) ∈ tl_ws := tl_in7 _ (List.mem_of_getElem? (i := 21) rfl)
theorem tl_m190 : (k_T_isPowerOfTwo : Cond) ∈ tl_ws := tl_in7 _ (List.mem_of_getElem? (i := 22) rfl)
theorem tl_m191 : (.methodLink R_T 113 y_T_leadsBehind : Cond) ∈ tl_ws := tl_in7 _ (List.mem_of_getElem? (i := 23) rfl)
theorem tl_m192 : (.instanceMethod y_T_leadsBehind : Cond) ∈ tl_ws := tl_in8 _ (List.mem_of_getElem? (i := 0) rfl)
theorem tl_m193 : (k_T_leadsBehind : Cond) ∈ tl_ws := tl_in8 _ (List.mem_of_getElem? (i := 1) rfl)
theorem tl_m194 : (.classLink R_L 10 R_M : Cond) ∈ tl_ws := tl_in8 _ (List.mem_of_getElem? (i := 2) rfl)
theorem tl_m195 : (.instantiable R_M 18 : Cond) ∈ tl_ws := tl_in8 _ (List.mem_of_getElem? (i := 3) rfl)
theorem tl_m196 : (.methodLink R_L 12 y_M_init : Cond) ∈ tl_ws := tl_in8 _ (List.mem_of_getElem? (i := 4) rfl)
theorem tl_m197 : (.instanceMethod y_M_init : Cond) ∈ tl_ws := tl_in8 _ (List.mem_of_getElem? (i := 5) rfl)
theorem tl_m198 : (k_M_init : Cond) ∈ tl_ws := tl_in8 _ (List.mem_of_getElem? (i := 6) rfl)
theorem tl_m199 : (.methodLink R_M 1 objectInit : Cond) ∈ tl_ws := tl_in8 _ (List.mem_of_getElem? (i := 7) rfl)
theorem tl_m200 : (.fieldLink R_M 91 "TileLogModel" "stored" "I" : Cond) ∈ tl_ws := tl_in8 _ (List.mem_of_getElem? (i := 8) rfl)
theorem tl_m201 : (.fieldLink R_M 7 "TileLogModel" "entries" "[J" : Cond) ∈ tl_ws := tl_in8 _ (List.mem_of_getElem? (i := 9) rfl)
theorem tl_m202 : (.fieldLink R_M 13 "TileLogModel" "tiles" "[J" : Cond) ∈ tl_ws := tl_in8 _ (List.mem_of_getElem? (i := 10) rfl)
theorem tl_m203 : (.fieldLink R_M 16 "TileLogModel" "numbers" "[I" : Cond) ∈ tl_ws := tl_in8 _ (List.mem_of_getElem? (i := 11) rfl)
theorem tl_m204 : (.fieldLink R_M 20 "TileLogModel" "sizes" "[I" : Cond) ∈ tl_ws := tl_in8 _ (List.mem_of_getElem? (i := 12) rfl)
theorem tl_m205 : (.fieldLink R_M 23 "TileLogModel" "roots" "[J" : Cond) ∈ tl_ws := tl_in8 _ (List.mem_of_getElem? (i := 13) rfl)
theorem tl_m206 : (.fieldLink R_M 69 "TileLogModel" "down" "Z" : Cond) ∈ tl_ws := tl_in8 _ (List.mem_of_getElem? (i := 14) rfl)
theorem tl_m207 : (.fieldLink R_M 72 "TileLogModel" "writes" "I" : Cond) ∈ tl_ws := tl_in8 _ (List.mem_of_getElem? (i := 15) rfl)
theorem tl_m208 : (.fieldLink R_M 26 "TileLogModel" "crashAfter" "I" : Cond) ∈ tl_ws := tl_in8 _ (List.mem_of_getElem? (i := 16) rfl)
theorem tl_m209 : (.fieldLink R_M 65 "TileLogModel" "crashed" "Z" : Cond) ∈ tl_ws := tl_in8 _ (List.mem_of_getElem? (i := 17) rfl)
theorem tl_m210 : (.fieldLink R_M 108 "TileLogModel" "proofLength" "I" : Cond) ∈ tl_ws := tl_in8 _ (List.mem_of_getElem? (i := 18) rfl)
theorem tl_m211 : (.fieldLink R_M 30 "TileLogModel" "proof" "[J" : Cond) ∈ tl_ws := tl_in8 _ (List.mem_of_getElem? (i := 19) rfl)
theorem tl_m212 : (.fieldLink R_M 122 "TileLogModel" "offerLength" "I" : Cond) ∈ tl_ws := tl_in8 _ (List.mem_of_getElem? (i := 20) rfl)
theorem tl_m213 : (.fieldLink R_M 33 "TileLogModel" "offer" "[J" : Cond) ∈ tl_ws := tl_in8 _ (List.mem_of_getElem? (i := 21) rfl)
theorem tl_m214 : (.fieldLink R_M 129 "TileLogModel" "rowLength" "I" : Cond) ∈ tl_ws := tl_in8 _ (List.mem_of_getElem? (i := 22) rfl)
theorem tl_m215 : (.fieldLink R_M 36 "TileLogModel" "row" "[J" : Cond) ∈ tl_ws := tl_in8 _ (List.mem_of_getElem? (i := 23) rfl)
theorem tl_m216 : (.fieldLink R_M 39 "TileLogModel" "whole" "[J" : Cond) ∈ tl_ws := tl_in9 _ (List.mem_of_getElem? (i := 0) rfl)
theorem tl_m217 : (.fieldLink R_M 42 "TileLogModel" "there" "[Z" : Cond) ∈ tl_ws := tl_in9 _ (List.mem_of_getElem? (i := 1) rfl)
theorem tl_m218 : (.arrayClass .boolean : Cond) ∈ tl_ws := tl_in9 _ (List.mem_of_getElem? (i := 2) rfl)
theorem tl_m219 : (.methodLink R_L 19 y_M_append : Cond) ∈ tl_ws := tl_in9 _ (List.mem_of_getElem? (i := 3) rfl)
theorem tl_m220 : (.instanceMethod y_M_append : Cond) ∈ tl_ws := tl_in9 _ (List.mem_of_getElem? (i := 4) rfl)
theorem tl_m221 : (.selects R_M y_M_append y_M_append : Cond) ∈ tl_ws := tl_in9 _ (List.mem_of_getElem? (i := 5) rfl)
theorem tl_m222 : (k_M_append : Cond) ∈ tl_ws := tl_in9 _ (List.mem_of_getElem? (i := 6) rfl)
theorem tl_m223 : (.methodLink R_M 83 y_M_write : Cond) ∈ tl_ws := tl_in9 _ (List.mem_of_getElem? (i := 7) rfl)
theorem tl_m224 : (.instanceMethod y_M_write : Cond) ∈ tl_ws := tl_in9 _ (List.mem_of_getElem? (i := 8) rfl)
theorem tl_m225 : (k_M_write : Cond) ∈ tl_ws := tl_in9 _ (List.mem_of_getElem? (i := 9) rfl)
theorem tl_m226 : (.methodLink R_L 24 y_M_publish : Cond) ∈ tl_ws := tl_in9 _ (List.mem_of_getElem? (i := 10) rfl)
theorem tl_m227 : (.instanceMethod y_M_publish : Cond) ∈ tl_ws := tl_in9 _ (List.mem_of_getElem? (i := 11) rfl)
theorem tl_m228 : (.selects R_M y_M_publish y_M_publish : Cond) ∈ tl_ws := tl_in9 _ (List.mem_of_getElem? (i := 12) rfl)
theorem tl_m229 : (k_M_publish : Cond) ∈ tl_ws := tl_in9 _ (List.mem_of_getElem? (i := 13) rfl)
theorem tl_m230 : (.methodLink R_M 94 y_M_published : Cond) ∈ tl_ws := tl_in9 _ (List.mem_of_getElem? (i := 14) rfl)
theorem tl_m231 : (.instanceMethod y_M_published : Cond) ∈ tl_ws := tl_in9 _ (List.mem_of_getElem? (i := 15) rfl)
theorem tl_m232 : (k_M_published : Cond) ∈ tl_ws := tl_in9 _ (List.mem_of_getElem? (i := 16) rfl)
theorem tl_m233 : (.methodLink R_M 87 y_M_latestPlace : Cond) ∈ tl_ws := tl_in9 _ (List.mem_of_getElem? (i := 17) rfl)
theorem tl_m234 : (.instanceMethod y_M_latestPlace : Cond) ∈ tl_ws := tl_in9 _ (List.mem_of_getElem? (i := 18) rfl)
theorem tl_m235 : (k_M_latestPlace : Cond) ∈ tl_ws := tl_in9 _ (List.mem_of_getElem? (i := 19) rfl)
theorem tl_m236 : (.methodLink R_M 97 y_M_putRight : Cond) ∈ tl_ws := tl_in9 _ (List.mem_of_getElem? (i := 20) rfl)
theorem tl_m237 : (.instanceMethod y_M_putRight : Cond) ∈ tl_ws := tl_in9 _ (List.mem_of_getElem? (i := 21) rfl)
theorem tl_m238 : (k_M_putRight : Cond) ∈ tl_ws := tl_in9 _ (List.mem_of_getElem? (i := 22) rfl)
theorem tl_m239 : (.methodLink R_M 79 y_M_rightAt : Cond) ∈ tl_ws := tl_in9 _ (List.mem_of_getElem? (i := 23) rfl)
theorem tl_m240 : (.instanceMethod y_M_rightAt : Cond) ∈ tl_ws := tl_in10 _ (List.mem_of_getElem? (i := 0) rfl)
theorem tl_m241 : (k_M_rightAt : Cond) ∈ tl_ws := tl_in10 _ (List.mem_of_getElem? (i := 1) rfl)
theorem tl_m242 : (.methodLink R_M 58 y_M_leaf : Cond) ∈ tl_ws := tl_in10 _ (List.mem_of_getElem? (i := 2) rfl)
theorem tl_m243 : (.static y_M_leaf : Cond) ∈ tl_ws := tl_in10 _ (List.mem_of_getElem? (i := 3) rfl)
theorem tl_m244 : (k_M_leaf : Cond) ∈ tl_ws := tl_in10 _ (List.mem_of_getElem? (i := 4) rfl)
theorem tl_m245 : (.constantLong R_M 50 (7) : Cond) ∈ tl_ws := tl_in10 _ (List.mem_of_getElem? (i := 5) rfl)
theorem tl_m246 : (.methodLink R_M 52 y_M_mix : Cond) ∈ tl_ws := tl_in10 _ (List.mem_of_getElem? (i := 6) rfl)
theorem tl_m247 : (.static y_M_mix : Cond) ∈ tl_ws := tl_in10 _ (List.mem_of_getElem? (i := 7) rfl)
theorem tl_m248 : (k_M_mix : Cond) ∈ tl_ws := tl_in10 _ (List.mem_of_getElem? (i := 8) rfl)
theorem tl_m249 : (.constantLong R_M 46 (5871781006564002453) : Cond) ∈ tl_ws := tl_in10 _ (List.mem_of_getElem? (i := 9) rfl)
theorem tl_m250 : (.constantLong R_M 48 (1181783497276652981) : Cond) ∈ tl_ws := tl_in10 _ (List.mem_of_getElem? (i := 10) rfl)
theorem tl_m251 : (.methodLink R_M 75 y_M_rootAt : Cond) ∈ tl_ws := tl_in10 _ (List.mem_of_getElem? (i := 11) rfl)
theorem tl_m252 : (.instanceMethod y_M_rootAt : Cond) ∈ tl_ws := tl_in10 _ (List.mem_of_getElem? (i := 12) rfl)
theorem tl_m253 : (k_M_rootAt : Cond) ∈ tl_ws := tl_in10 _ (List.mem_of_getElem? (i := 13) rfl)
theorem tl_m254 : (.methodLink R_M 62 y_M_node : Cond) ∈ tl_ws := tl_in10 _ (List.mem_of_getElem? (i := 14) rfl)
theorem tl_m255 : (.static y_M_node : Cond) ∈ tl_ws := tl_in10 _ (List.mem_of_getElem? (i := 15) rfl)
theorem tl_m256 : (k_M_node : Cond) ∈ tl_ws := tl_in10 _ (List.mem_of_getElem? (i := 16) rfl)
theorem tl_m257 : (.constantLong R_M 56 (2) : Cond) ∈ tl_ws := tl_in10 _ (List.mem_of_getElem? (i := 17) rfl)
theorem tl_m258 : (.methodLink R_M 101 y_M_latestNumber : Cond) ∈ tl_ws := tl_in10 _ (List.mem_of_getElem? (i := 18) rfl)
theorem tl_m259 : (.instanceMethod y_M_latestNumber : Cond) ∈ tl_ws := tl_in10 _ (List.mem_of_getElem? (i := 19) rfl)
theorem tl_m260 : (k_M_latestNumber : Cond) ∈ tl_ws := tl_in10 _ (List.mem_of_getElem? (i := 20) rfl)
theorem tl_m261 : (.methodLink R_L 29 y_M_order : Cond) ∈ tl_ws := tl_in10 _ (List.mem_of_getElem? (i := 21) rfl)
theorem tl_m262 : (.instanceMethod y_M_order : Cond) ∈ tl_ws := tl_in10 _ (List.mem_of_getElem? (i := 22) rfl)
theorem tl_m263 : (.selects R_M y_M_order y_M_order : Cond) ∈ tl_ws := tl_in10 _ (List.mem_of_getElem? (i := 23) rfl)
theorem tl_m264 : (k_M_order : Cond) ∈ tl_ws := tl_in11 _ (List.mem_of_getElem? (i := 0) rfl)
theorem tl_m265 : (.methodLink R_L 33 y_M_recover : Cond) ∈ tl_ws := tl_in11 _ (List.mem_of_getElem? (i := 1) rfl)
theorem tl_m266 : (.instanceMethod y_M_recover : Cond) ∈ tl_ws := tl_in11 _ (List.mem_of_getElem? (i := 2) rfl)
theorem tl_m267 : (.selects R_M y_M_recover y_M_recover : Cond) ∈ tl_ws := tl_in11 _ (List.mem_of_getElem? (i := 3) rfl)
theorem tl_m268 : (k_M_recover : Cond) ∈ tl_ws := tl_in11 _ (List.mem_of_getElem? (i := 4) rfl)
theorem tl_m269 : (.methodLink R_L 37 y_M_writes : Cond) ∈ tl_ws := tl_in11 _ (List.mem_of_getElem? (i := 5) rfl)
theorem tl_m270 : (.instanceMethod y_M_writes : Cond) ∈ tl_ws := tl_in11 _ (List.mem_of_getElem? (i := 6) rfl)
theorem tl_m271 : (.selects R_M y_M_writes y_M_writes : Cond) ∈ tl_ws := tl_in11 _ (List.mem_of_getElem? (i := 7) rfl)
theorem tl_m272 : (k_M_writes : Cond) ∈ tl_ws := tl_in11 _ (List.mem_of_getElem? (i := 8) rfl)
theorem tl_m273 : (.methodLink R_L 41 y_M_length : Cond) ∈ tl_ws := tl_in11 _ (List.mem_of_getElem? (i := 9) rfl)
theorem tl_m274 : (.instanceMethod y_M_length : Cond) ∈ tl_ws := tl_in11 _ (List.mem_of_getElem? (i := 10) rfl)
theorem tl_m275 : (.selects R_M y_M_length y_M_length : Cond) ∈ tl_ws := tl_in11 _ (List.mem_of_getElem? (i := 11) rfl)
theorem tl_m276 : (k_M_length : Cond) ∈ tl_ws := tl_in11 _ (List.mem_of_getElem? (i := 12) rfl)
theorem tl_m277 : (.methodLink R_L 46 y_M_size : Cond) ∈ tl_ws := tl_in11 _ (List.mem_of_getElem? (i := 13) rfl)
theorem tl_m278 : (.instanceMethod y_M_size : Cond) ∈ tl_ws := tl_in11 _ (List.mem_of_getElem? (i := 14) rfl)
theorem tl_m279 : (.selects R_M y_M_size y_M_size : Cond) ∈ tl_ws := tl_in11 _ (List.mem_of_getElem? (i := 15) rfl)
theorem tl_m280 : (k_M_size : Cond) ∈ tl_ws := tl_in11 _ (List.mem_of_getElem? (i := 16) rfl)
theorem tl_m281 : (.methodLink R_M 104 y_M_isHead : Cond) ∈ tl_ws := tl_in11 _ (List.mem_of_getElem? (i := 17) rfl)
theorem tl_m282 : (.instanceMethod y_M_isHead : Cond) ∈ tl_ws := tl_in11 _ (List.mem_of_getElem? (i := 18) rfl)
theorem tl_m283 : (k_M_isHead : Cond) ∈ tl_ws := tl_in11 _ (List.mem_of_getElem? (i := 19) rfl)
theorem tl_m284 : (.methodLink R_L 51 y_M_root : Cond) ∈ tl_ws := tl_in11 _ (List.mem_of_getElem? (i := 20) rfl)
theorem tl_m285 : (.instanceMethod y_M_root : Cond) ∈ tl_ws := tl_in11 _ (List.mem_of_getElem? (i := 21) rfl)
theorem tl_m286 : (.selects R_M y_M_root y_M_root : Cond) ∈ tl_ws := tl_in11 _ (List.mem_of_getElem? (i := 22) rfl)
theorem tl_m287 : (k_M_root : Cond) ∈ tl_ws := tl_in11 _ (List.mem_of_getElem? (i := 23) rfl)
theorem tl_m288 : (.methodLink R_L 55 y_M_latest : Cond) ∈ tl_ws := tl_in12 _ (List.mem_of_getElem? (i := 0) rfl)
theorem tl_m289 : (.instanceMethod y_M_latest : Cond) ∈ tl_ws := tl_in12 _ (List.mem_of_getElem? (i := 1) rfl)
theorem tl_m290 : (.selects R_M y_M_latest y_M_latest : Cond) ∈ tl_ws := tl_in12 _ (List.mem_of_getElem? (i := 2) rfl)
theorem tl_m291 : (k_M_latest : Cond) ∈ tl_ws := tl_in12 _ (List.mem_of_getElem? (i := 3) rfl)
theorem tl_m292 : (.methodLink R_L 60 y_M_tile : Cond) ∈ tl_ws := tl_in12 _ (List.mem_of_getElem? (i := 4) rfl)
theorem tl_m293 : (.instanceMethod y_M_tile : Cond) ∈ tl_ws := tl_in12 _ (List.mem_of_getElem? (i := 5) rfl)
theorem tl_m294 : (.selects R_M y_M_tile y_M_tile : Cond) ∈ tl_ws := tl_in12 _ (List.mem_of_getElem? (i := 6) rfl)
theorem tl_m295 : (k_M_tile : Cond) ∈ tl_ws := tl_in12 _ (List.mem_of_getElem? (i := 7) rfl)
theorem tl_m296 : (.methodLink R_L 64 y_M_entry : Cond) ∈ tl_ws := tl_in12 _ (List.mem_of_getElem? (i := 8) rfl)
theorem tl_m297 : (.instanceMethod y_M_entry : Cond) ∈ tl_ws := tl_in12 _ (List.mem_of_getElem? (i := 9) rfl)
theorem tl_m298 : (.selects R_M y_M_entry y_M_entry : Cond) ∈ tl_ws := tl_in12 _ (List.mem_of_getElem? (i := 10) rfl)
theorem tl_m299 : (k_M_entry : Cond) ∈ tl_ws := tl_in12 _ (List.mem_of_getElem? (i := 11) rfl)
theorem tl_m300 : (.methodLink R_L 68 y_M_find : Cond) ∈ tl_ws := tl_in12 _ (List.mem_of_getElem? (i := 12) rfl)
theorem tl_m301 : (.instanceMethod y_M_find : Cond) ∈ tl_ws := tl_in12 _ (List.mem_of_getElem? (i := 13) rfl)
theorem tl_m302 : (.selects R_M y_M_find y_M_find : Cond) ∈ tl_ws := tl_in12 _ (List.mem_of_getElem? (i := 14) rfl)
theorem tl_m303 : (k_M_find : Cond) ∈ tl_ws := tl_in12 _ (List.mem_of_getElem? (i := 15) rfl)
theorem tl_m304 : (.methodLink R_L 72 y_M_rootOf : Cond) ∈ tl_ws := tl_in12 _ (List.mem_of_getElem? (i := 16) rfl)
theorem tl_m305 : (.instanceMethod y_M_rootOf : Cond) ∈ tl_ws := tl_in12 _ (List.mem_of_getElem? (i := 17) rfl)
theorem tl_m306 : (.selects R_M y_M_rootOf y_M_rootOf : Cond) ∈ tl_ws := tl_in12 _ (List.mem_of_getElem? (i := 18) rfl)
theorem tl_m307 : (k_M_rootOf : Cond) ∈ tl_ws := tl_in12 _ (List.mem_of_getElem? (i := 19) rfl)
theorem tl_m308 : (.methodLink R_L 77 y_M_include : Cond) ∈ tl_ws := tl_in12 _ (List.mem_of_getElem? (i := 20) rfl)
theorem tl_m309 : (.instanceMethod y_M_include : Cond) ∈ tl_ws := tl_in12 _ (List.mem_of_getElem? (i := 21) rfl)
theorem tl_m310 : (.selects R_M y_M_include y_M_include : Cond) ∈ tl_ws := tl_in12 _ (List.mem_of_getElem? (i := 22) rfl)
theorem tl_m311 : (k_M_include : Cond) ∈ tl_ws := tl_in12 _ (List.mem_of_getElem? (i := 23) rfl)
theorem tl_m312 : (.methodLink R_M 111 y_M_half : Cond) ∈ tl_ws := tl_in13 _ (List.mem_of_getElem? (i := 0) rfl)
theorem tl_m313 : (.static y_M_half : Cond) ∈ tl_ws := tl_in13 _ (List.mem_of_getElem? (i := 1) rfl)
theorem tl_m314 : (k_M_half : Cond) ∈ tl_ws := tl_in13 _ (List.mem_of_getElem? (i := 2) rfl)
theorem tl_m315 : (.methodLink R_M 115 y_M_say : Cond) ∈ tl_ws := tl_in13 _ (List.mem_of_getElem? (i := 3) rfl)
theorem tl_m316 : (.instanceMethod y_M_say : Cond) ∈ tl_ws := tl_in13 _ (List.mem_of_getElem? (i := 4) rfl)
theorem tl_m317 : (k_M_say : Cond) ∈ tl_ws := tl_in13 _ (List.mem_of_getElem? (i := 5) rfl)
theorem tl_m318 : (.methodLink R_M 119 y_M_turn : Cond) ∈ tl_ws := tl_in13 _ (List.mem_of_getElem? (i := 6) rfl)
theorem tl_m319 : (.instanceMethod y_M_turn : Cond) ∈ tl_ws := tl_in13 _ (List.mem_of_getElem? (i := 7) rfl)
theorem tl_m320 : (k_M_turn : Cond) ∈ tl_ws := tl_in13 _ (List.mem_of_getElem? (i := 8) rfl)
theorem tl_m321 : (.methodLink R_L 81 y_M_extend : Cond) ∈ tl_ws := tl_in13 _ (List.mem_of_getElem? (i := 9) rfl)
theorem tl_m322 : (.instanceMethod y_M_extend : Cond) ∈ tl_ws := tl_in13 _ (List.mem_of_getElem? (i := 10) rfl)
theorem tl_m323 : (.selects R_M y_M_extend y_M_extend : Cond) ∈ tl_ws := tl_in13 _ (List.mem_of_getElem? (i := 11) rfl)
theorem tl_m324 : (k_M_extend : Cond) ∈ tl_ws := tl_in13 _ (List.mem_of_getElem? (i := 12) rfl)
theorem tl_m325 : (.methodLink R_L 85 y_M_proof : Cond) ∈ tl_ws := tl_in13 _ (List.mem_of_getElem? (i := 13) rfl)
theorem tl_m326 : (.instanceMethod y_M_proof : Cond) ∈ tl_ws := tl_in13 _ (List.mem_of_getElem? (i := 14) rfl)
theorem tl_m327 : (.selects R_M y_M_proof y_M_proof : Cond) ∈ tl_ws := tl_in13 _ (List.mem_of_getElem? (i := 15) rfl)
theorem tl_m328 : (k_M_proof : Cond) ∈ tl_ws := tl_in13 _ (List.mem_of_getElem? (i := 16) rfl)
theorem tl_m329 : (.methodLink R_L 90 y_M_offer : Cond) ∈ tl_ws := tl_in13 _ (List.mem_of_getElem? (i := 17) rfl)
theorem tl_m330 : (.instanceMethod y_M_offer : Cond) ∈ tl_ws := tl_in13 _ (List.mem_of_getElem? (i := 18) rfl)
theorem tl_m331 : (.selects R_M y_M_offer y_M_offer : Cond) ∈ tl_ws := tl_in13 _ (List.mem_of_getElem? (i := 19) rfl)
theorem tl_m332 : (k_M_offer : Cond) ∈ tl_ws := tl_in13 _ (List.mem_of_getElem? (i := 20) rfl)
theorem tl_m333 : (.methodLink R_L 94 y_M_offers : Cond) ∈ tl_ws := tl_in13 _ (List.mem_of_getElem? (i := 21) rfl)
theorem tl_m334 : (.instanceMethod y_M_offers : Cond) ∈ tl_ws := tl_in13 _ (List.mem_of_getElem? (i := 22) rfl)
theorem tl_m335 : (.selects R_M y_M_offers y_M_offers : Cond) ∈ tl_ws := tl_in13 _ (List.mem_of_getElem? (i := 23) rfl)
theorem tl_m336 : (k_M_offers : Cond) ∈ tl_ws := tl_in14 _ (List.mem_of_getElem? (i := 0) rfl)
theorem tl_m337 : (.methodLink R_L 99 y_M_shows : Cond) ∈ tl_ws := tl_in14 _ (List.mem_of_getElem? (i := 1) rfl)
theorem tl_m338 : (.instanceMethod y_M_shows : Cond) ∈ tl_ws := tl_in14 _ (List.mem_of_getElem? (i := 2) rfl)
theorem tl_m339 : (.selects R_M y_M_shows y_M_shows : Cond) ∈ tl_ws := tl_in14 _ (List.mem_of_getElem? (i := 3) rfl)
theorem tl_m340 : (k_M_shows : Cond) ∈ tl_ws := tl_in14 _ (List.mem_of_getElem? (i := 4) rfl)
theorem tl_m341 : (.constant R_M 125 (1000000) : Cond) ∈ tl_ws := tl_in14 _ (List.mem_of_getElem? (i := 5) rfl)
theorem tl_m342 : (.methodLink R_M 126 y_M_halvings : Cond) ∈ tl_ws := tl_in14 _ (List.mem_of_getElem? (i := 6) rfl)
theorem tl_m343 : (.static y_M_halvings : Cond) ∈ tl_ws := tl_in14 _ (List.mem_of_getElem? (i := 7) rfl)
theorem tl_m344 : (k_M_halvings : Cond) ∈ tl_ws := tl_in14 _ (List.mem_of_getElem? (i := 8) rfl)
theorem tl_m345 : (.methodLink R_L 104 y_M_leads : Cond) ∈ tl_ws := tl_in14 _ (List.mem_of_getElem? (i := 9) rfl)
theorem tl_m346 : (.instanceMethod y_M_leads : Cond) ∈ tl_ws := tl_in14 _ (List.mem_of_getElem? (i := 10) rfl)
theorem tl_m347 : (.selects R_M y_M_leads y_M_leads : Cond) ∈ tl_ws := tl_in14 _ (List.mem_of_getElem? (i := 11) rfl)
theorem tl_m348 : (k_M_leads : Cond) ∈ tl_ws := tl_in14 _ (List.mem_of_getElem? (i := 12) rfl)
theorem tl_m349 : (.methodLink R_M 132 y_M_buildRow : Cond) ∈ tl_ws := tl_in14 _ (List.mem_of_getElem? (i := 13) rfl)
theorem tl_m350 : (.instanceMethod y_M_buildRow : Cond) ∈ tl_ws := tl_in14 _ (List.mem_of_getElem? (i := 14) rfl)
theorem tl_m351 : (k_M_buildRow : Cond) ∈ tl_ws := tl_in14 _ (List.mem_of_getElem? (i := 15) rfl)
theorem tl_m352 : (.constantLong R_L 13 (4294967295) : Cond) ∈ tl_ws := tl_in14 _ (List.mem_of_getElem? (i := 16) rfl)
theorem tl_m353 : (.selects R_D y_D_writeEntry y_D_writeEntry : Cond) ∈ tl_ws := tl_in14 _ (List.mem_of_getElem? (i := 17) rfl)
theorem tl_m354 : (.selects R_D y_D_beginWrite y_D_beginWrite : Cond) ∈ tl_ws := tl_in14 _ (List.mem_of_getElem? (i := 18) rfl)
theorem tl_m355 : (.selects R_D y_D_publishedSize y_D_publishedSize : Cond) ∈ tl_ws := tl_in14 _ (List.mem_of_getElem? (i := 19) rfl)
theorem tl_m356 : (.selects R_D y_D_latestPlace y_D_latestPlace : Cond) ∈ tl_ws := tl_in14 _ (List.mem_of_getElem? (i := 20) rfl)
theorem tl_m357 : (.selects R_D y_D_writeTilesFor y_D_writeTilesFor : Cond) ∈ tl_ws := tl_in14 _ (List.mem_of_getElem? (i := 21) rfl)
theorem tl_m358 : (.selects R_D y_D_isRight y_D_isRight : Cond) ∈ tl_ws := tl_in14 _ (List.mem_of_getElem? (i := 22) rfl)
theorem tl_m359 : (.selects R_D y_D_leafBelow y_D_leafBelow : Cond) ∈ tl_ws := tl_in14 _ (List.mem_of_getElem? (i := 23) rfl)
theorem tl_m360 : (.selects R_D y_D_groupBelow y_D_groupBelow : Cond) ∈ tl_ws := tl_in15 _ (List.mem_of_getElem? (i := 0) rfl)
theorem tl_m361 : (.selects R_D y_D_writeTile y_D_writeTile : Cond) ∈ tl_ws := tl_in15 _ (List.mem_of_getElem? (i := 1) rfl)
theorem tl_m362 : (.selects R_D y_D_latestNumber y_D_latestNumber : Cond) ∈ tl_ws := tl_in15 _ (List.mem_of_getElem? (i := 2) rfl)
theorem tl_m363 : (.selects R_D y_D_writeHead y_D_writeHead : Cond) ∈ tl_ws := tl_in15 _ (List.mem_of_getElem? (i := 3) rfl)
theorem tl_m364 : (.selects R_D y_D_hasHead y_D_hasHead : Cond) ∈ tl_ws := tl_in15 _ (List.mem_of_getElem? (i := 4) rfl)
theorem tl_m365 : (.selects R_T y_T_addPath y_T_addPath : Cond) ∈ tl_ws := tl_in15 _ (List.mem_of_getElem? (i := 5) rfl)
theorem tl_m366 : (.selects R_T y_T_addToProof y_T_addToProof : Cond) ∈ tl_ws := tl_in15 _ (List.mem_of_getElem? (i := 6) rfl)
theorem tl_m367 : (.selects R_T y_T_addBridge y_T_addBridge : Cond) ∈ tl_ws := tl_in15 _ (List.mem_of_getElem? (i := 7) rfl)
theorem tl_m368 : (.selects R_T y_T_leadsBehind y_T_leadsBehind : Cond) ∈ tl_ws := tl_in15 _ (List.mem_of_getElem? (i := 8) rfl)
theorem tl_m369 : (.selects R_M y_M_write y_M_write : Cond) ∈ tl_ws := tl_in15 _ (List.mem_of_getElem? (i := 9) rfl)
theorem tl_m370 : (.selects R_M y_M_published y_M_published : Cond) ∈ tl_ws := tl_in15 _ (List.mem_of_getElem? (i := 10) rfl)
theorem tl_m371 : (.selects R_M y_M_latestPlace y_M_latestPlace : Cond) ∈ tl_ws := tl_in15 _ (List.mem_of_getElem? (i := 11) rfl)
theorem tl_m372 : (.selects R_M y_M_putRight y_M_putRight : Cond) ∈ tl_ws := tl_in15 _ (List.mem_of_getElem? (i := 12) rfl)
theorem tl_m373 : (.selects R_M y_M_rightAt y_M_rightAt : Cond) ∈ tl_ws := tl_in15 _ (List.mem_of_getElem? (i := 13) rfl)
theorem tl_m374 : (.selects R_M y_M_rootAt y_M_rootAt : Cond) ∈ tl_ws := tl_in15 _ (List.mem_of_getElem? (i := 14) rfl)
theorem tl_m375 : (.selects R_M y_M_latestNumber y_M_latestNumber : Cond) ∈ tl_ws := tl_in15 _ (List.mem_of_getElem? (i := 15) rfl)
theorem tl_m376 : (.selects R_M y_M_isHead y_M_isHead : Cond) ∈ tl_ws := tl_in15 _ (List.mem_of_getElem? (i := 16) rfl)
theorem tl_m377 : (.selects R_M y_M_say y_M_say : Cond) ∈ tl_ws := tl_in15 _ (List.mem_of_getElem? (i := 17) rfl)
theorem tl_m378 : (.selects R_M y_M_turn y_M_turn : Cond) ∈ tl_ws := tl_in15 _ (List.mem_of_getElem? (i := 18) rfl)
theorem tl_m379 : (.selects R_M y_M_buildRow y_M_buildRow : Cond) ∈ tl_ws := tl_in15 _ (List.mem_of_getElem? (i := 19) rfl)
theorem tl_m380 : (.laysFinal R_T "TileLog" "disk" "LTileLog$Disk;" : Cond) ∈ tl_ws := tl_in15 _ (List.mem_of_getElem? (i := 20) rfl)
theorem tl_m381 : (.laysFinal R_T "TileLog" "proofHashes" "[J" : Cond) ∈ tl_ws := tl_in15 _ (List.mem_of_getElem? (i := 21) rfl)
theorem tl_m382 : (.lays R_T "TileLog" "proofLength" "I" : Cond) ∈ tl_ws := tl_in15 _ (List.mem_of_getElem? (i := 22) rfl)
theorem tl_m383 : (.laysFinal R_T "TileLog" "offerHashes" "[J" : Cond) ∈ tl_ws := tl_in15 _ (List.mem_of_getElem? (i := 23) rfl)
theorem tl_m384 : (.lays R_T "TileLog" "offerLength" "I" : Cond) ∈ tl_ws := tl_in16 _ (List.mem_of_getElem? (i := 0) rfl)
theorem tl_m385 : (.laysFinal R_D "TileLog$Disk" "entries" "[J" : Cond) ∈ tl_ws := tl_in16 _ (List.mem_of_getElem? (i := 1) rfl)
theorem tl_m386 : (.laysFinal R_D "TileLog$Disk" "tiles" "[[J" : Cond) ∈ tl_ws := tl_in16 _ (List.mem_of_getElem? (i := 2) rfl)
theorem tl_m387 : (.laysFinal R_D "TileLog$Disk" "headNumbers" "[I" : Cond) ∈ tl_ws := tl_in16 _ (List.mem_of_getElem? (i := 3) rfl)
theorem tl_m388 : (.laysFinal R_D "TileLog$Disk" "headSizes" "[I" : Cond) ∈ tl_ws := tl_in16 _ (List.mem_of_getElem? (i := 4) rfl)
theorem tl_m389 : (.laysFinal R_D "TileLog$Disk" "headRoots" "[J" : Cond) ∈ tl_ws := tl_in16 _ (List.mem_of_getElem? (i := 5) rfl)
theorem tl_m390 : (.laysFinal R_D "TileLog$Disk" "rightTile" "[J" : Cond) ∈ tl_ws := tl_in16 _ (List.mem_of_getElem? (i := 6) rfl)
theorem tl_m391 : (.lays R_D "TileLog$Disk" "filled" "I" : Cond) ∈ tl_ws := tl_in16 _ (List.mem_of_getElem? (i := 7) rfl)
theorem tl_m392 : (.lays R_D "TileLog$Disk" "writesMade" "I" : Cond) ∈ tl_ws := tl_in16 _ (List.mem_of_getElem? (i := 8) rfl)
theorem tl_m393 : (.lays R_D "TileLog$Disk" "writesBeforeCrash" "I" : Cond) ∈ tl_ws := tl_in16 _ (List.mem_of_getElem? (i := 9) rfl)
theorem tl_m394 : (.lays R_D "TileLog$Disk" "down" "Z" : Cond) ∈ tl_ws := tl_in16 _ (List.mem_of_getElem? (i := 10) rfl)
theorem tl_m395 : (.lays R_M "TileLogModel" "stored" "I" : Cond) ∈ tl_ws := tl_in16 _ (List.mem_of_getElem? (i := 11) rfl)
theorem tl_m396 : (.laysFinal R_M "TileLogModel" "entries" "[J" : Cond) ∈ tl_ws := tl_in16 _ (List.mem_of_getElem? (i := 12) rfl)
theorem tl_m397 : (.laysFinal R_M "TileLogModel" "tiles" "[J" : Cond) ∈ tl_ws := tl_in16 _ (List.mem_of_getElem? (i := 13) rfl)
theorem tl_m398 : (.laysFinal R_M "TileLogModel" "numbers" "[I" : Cond) ∈ tl_ws := tl_in16 _ (List.mem_of_getElem? (i := 14) rfl)
theorem tl_m399 : (.laysFinal R_M "TileLogModel" "sizes" "[I" : Cond) ∈ tl_ws := tl_in16 _ (List.mem_of_getElem? (i := 15) rfl)
theorem tl_m400 : (.laysFinal R_M "TileLogModel" "roots" "[J" : Cond) ∈ tl_ws := tl_in16 _ (List.mem_of_getElem? (i := 16) rfl)
theorem tl_m401 : (.lays R_M "TileLogModel" "down" "Z" : Cond) ∈ tl_ws := tl_in16 _ (List.mem_of_getElem? (i := 17) rfl)
theorem tl_m402 : (.lays R_M "TileLogModel" "writes" "I" : Cond) ∈ tl_ws := tl_in16 _ (List.mem_of_getElem? (i := 18) rfl)
theorem tl_m403 : (.lays R_M "TileLogModel" "crashAfter" "I" : Cond) ∈ tl_ws := tl_in16 _ (List.mem_of_getElem? (i := 19) rfl)
theorem tl_m404 : (.lays R_M "TileLogModel" "crashed" "Z" : Cond) ∈ tl_ws := tl_in16 _ (List.mem_of_getElem? (i := 20) rfl)
theorem tl_m405 : (.lays R_M "TileLogModel" "proofLength" "I" : Cond) ∈ tl_ws := tl_in16 _ (List.mem_of_getElem? (i := 21) rfl)
theorem tl_m406 : (.laysFinal R_M "TileLogModel" "proof" "[J" : Cond) ∈ tl_ws := tl_in16 _ (List.mem_of_getElem? (i := 22) rfl)
theorem tl_m407 : (.lays R_M "TileLogModel" "offerLength" "I" : Cond) ∈ tl_ws := tl_in16 _ (List.mem_of_getElem? (i := 23) rfl)
theorem tl_m408 : (.laysFinal R_M "TileLogModel" "offer" "[J" : Cond) ∈ tl_ws := tl_in17 _ (List.mem_of_getElem? (i := 0) rfl)
theorem tl_m409 : (.lays R_M "TileLogModel" "rowLength" "I" : Cond) ∈ tl_ws := tl_in17 _ (List.mem_of_getElem? (i := 1) rfl)
theorem tl_m410 : (.laysFinal R_M "TileLogModel" "row" "[J" : Cond) ∈ tl_ws := tl_in17 _ (List.mem_of_getElem? (i := 2) rfl)
theorem tl_m411 : (.laysFinal R_M "TileLogModel" "whole" "[J" : Cond) ∈ tl_ws := tl_in17 _ (List.mem_of_getElem? (i := 3) rfl)
theorem tl_m412 : (.laysFinal R_M "TileLogModel" "there" "[Z" : Cond) ∈ tl_ws := tl_in17 _ (List.mem_of_getElem? (i := 4) rfl)
theorem tl_gw : tl_ws.all goodWord = true := by decide +kernel
theorem tl_good {c : Cond} (h : c ∈ tl_ws) : GoodIn tl_ws (c :: tl_ws) := fun w hw => ⟨(List.mem_cons.mp hw).elim (fun q => q ▸ h) id, good_of_word (List.all_eq_true.mp tl_gw w ((List.mem_cons.mp hw).elim (fun q => q ▸ h) id))⟩
theorem iw_T : ∀ w ∈ u_ws R_T F_T 5, w ∈ tl_ws := by
  intro w h
  obtain ⟨k, hk, rfl⟩ := List.mem_map.mp h
  have hk := List.mem_range.mp hk
  rcases (show k = 0 ∨ k = 1 ∨ k = 2 ∨ k = 3 ∨ k = 4 by omega) with rfl | rfl | rfl | rfl | rfl
  · exact tl_m380
  · exact tl_m381
  · exact tl_m382
  · exact tl_m383
  · exact tl_m384
theorem iw_D : ∀ w ∈ u_ws R_D F_D 10, w ∈ tl_ws := by
  intro w h
  obtain ⟨k, hk, rfl⟩ := List.mem_map.mp h
  have hk := List.mem_range.mp hk
  rcases (show k = 0 ∨ k = 1 ∨ k = 2 ∨ k = 3 ∨ k = 4 ∨ k = 5 ∨ k = 6 ∨ k = 7 ∨ k = 8 ∨ k = 9 by omega) with rfl | rfl | rfl | rfl | rfl | rfl | rfl | rfl | rfl | rfl
  · exact tl_m385
  · exact tl_m386
  · exact tl_m387
  · exact tl_m388
  · exact tl_m389
  · exact tl_m390
  · exact tl_m391
  · exact tl_m392
  · exact tl_m393
  · exact tl_m394
theorem iw_M : ∀ w ∈ u_ws R_M F_M 18, w ∈ tl_ws := by
  intro w h
  obtain ⟨k, hk, rfl⟩ := List.mem_map.mp h
  have hk := List.mem_range.mp hk
  rcases (show k = 0 ∨ k = 1 ∨ k = 2 ∨ k = 3 ∨ k = 4 ∨ k = 5 ∨ k = 6 ∨ k = 7 ∨ k = 8 ∨ k = 9 ∨ k = 10 ∨ k = 11 ∨ k = 12 ∨ k = 13 ∨ k = 14 ∨ k = 15 ∨ k = 16 ∨ k = 17 by omega) with rfl | rfl | rfl | rfl | rfl | rfl | rfl | rfl | rfl | rfl | rfl | rfl | rfl | rfl | rfl | rfl | rfl | rfl
  · exact tl_m395
  · exact tl_m396
  · exact tl_m397
  · exact tl_m398
  · exact tl_m399
  · exact tl_m400
  · exact tl_m401
  · exact tl_m402
  · exact tl_m403
  · exact tl_m404
  · exact tl_m405
  · exact tl_m406
  · exact tl_m407
  · exact tl_m408
  · exact tl_m409
  · exact tl_m410
  · exact tl_m411
  · exact tl_m412
def tl_nf : List (String × Nat × String × String × String × String) := [(R_T, 52, "TileLog$Disk", "entries", "[J", R_T), (R_T, 81, "TileLog$Disk", "tiles", "[[J", R_T), (R_T, 74, "TileLog$Disk", "headSizes", "[I", R_T), (R_T, 78, "TileLog$Disk", "headRoots", "[J", R_T), (R_T, 34, "TileLog$Disk", "filled", "I", R_T), (R_T, 68, "TileLog$Disk", "writesMade", "I", R_T), (R_T, 65, "TileLog$Disk", "writesBeforeCrash", "I", R_T), (R_T, 30, "TileLog$Disk", "down", "Z", R_T)]
def tl_nm : List (String × Nat × MethodName × String) := [(R_T, 9, y_D_init, R_T), (R_T, 37, y_D_writeEntry, R_T), (R_T, 41, y_D_publishedSize, R_T), (R_T, 45, y_D_writeTilesFor, R_T), (R_D, 70, y_H_ofLeaf, R_T), (R_D, 76, y_H_ofRow, R_T), (R_T, 49, y_D_latestNumber, R_T), (R_T, 55, y_H_ofRow, R_T), (R_T, 61, y_D_writeHead, R_T), (R_T, 71, y_D_hasHead, R_T), (R_T, 85, y_H_ofLeaf, R_T), (R_T, 121, y_H_half, R_T), (R_T, 102, y_H_ofNode, R_T)]
theorem dd_T_init : y_T_init.cls ≠ "java/lang/invoke/MethodHandle" ∧ y_T_init.cls ≠ "java/lang/invoke/VarHandle" ∧ (parseMethodDescriptor y_T_init.desc).map (fun d => d.parameters.length) = some 0 := by decide +kernel
theorem dd_T_append : y_T_append.cls ≠ "java/lang/invoke/MethodHandle" ∧ y_T_append.cls ≠ "java/lang/invoke/VarHandle" ∧ (parseMethodDescriptor y_T_append.desc).map (fun d => d.parameters.length) = some 1 := by decide +kernel
theorem dd_T_publish : y_T_publish.cls ≠ "java/lang/invoke/MethodHandle" ∧ y_T_publish.cls ≠ "java/lang/invoke/VarHandle" ∧ (parseMethodDescriptor y_T_publish.desc).map (fun d => d.parameters.length) = some 0 := by decide +kernel
theorem dd_T_order : y_T_order.cls ≠ "java/lang/invoke/MethodHandle" ∧ y_T_order.cls ≠ "java/lang/invoke/VarHandle" ∧ (parseMethodDescriptor y_T_order.desc).map (fun d => d.parameters.length) = some 1 := by decide +kernel
theorem dd_T_recover : y_T_recover.cls ≠ "java/lang/invoke/MethodHandle" ∧ y_T_recover.cls ≠ "java/lang/invoke/VarHandle" ∧ (parseMethodDescriptor y_T_recover.desc).map (fun d => d.parameters.length) = some 0 := by decide +kernel
theorem dd_T_writes : y_T_writes.cls ≠ "java/lang/invoke/MethodHandle" ∧ y_T_writes.cls ≠ "java/lang/invoke/VarHandle" ∧ (parseMethodDescriptor y_T_writes.desc).map (fun d => d.parameters.length) = some 0 := by decide +kernel
theorem dd_T_length : y_T_length.cls ≠ "java/lang/invoke/MethodHandle" ∧ y_T_length.cls ≠ "java/lang/invoke/VarHandle" ∧ (parseMethodDescriptor y_T_length.desc).map (fun d => d.parameters.length) = some 0 := by decide +kernel
theorem dd_T_size : y_T_size.cls ≠ "java/lang/invoke/MethodHandle" ∧ y_T_size.cls ≠ "java/lang/invoke/VarHandle" ∧ (parseMethodDescriptor y_T_size.desc).map (fun d => d.parameters.length) = some 1 := by decide +kernel
theorem dd_T_root : y_T_root.cls ≠ "java/lang/invoke/MethodHandle" ∧ y_T_root.cls ≠ "java/lang/invoke/VarHandle" ∧ (parseMethodDescriptor y_T_root.desc).map (fun d => d.parameters.length) = some 1 := by decide +kernel
theorem dd_T_latest : y_T_latest.cls ≠ "java/lang/invoke/MethodHandle" ∧ y_T_latest.cls ≠ "java/lang/invoke/VarHandle" ∧ (parseMethodDescriptor y_T_latest.desc).map (fun d => d.parameters.length) = some 0 := by decide +kernel
theorem dd_T_tile : y_T_tile.cls ≠ "java/lang/invoke/MethodHandle" ∧ y_T_tile.cls ≠ "java/lang/invoke/VarHandle" ∧ (parseMethodDescriptor y_T_tile.desc).map (fun d => d.parameters.length) = some 3 := by decide +kernel
theorem dd_T_entry : y_T_entry.cls ≠ "java/lang/invoke/MethodHandle" ∧ y_T_entry.cls ≠ "java/lang/invoke/VarHandle" ∧ (parseMethodDescriptor y_T_entry.desc).map (fun d => d.parameters.length) = some 1 := by decide +kernel
theorem dd_T_find : y_T_find.cls ≠ "java/lang/invoke/MethodHandle" ∧ y_T_find.cls ≠ "java/lang/invoke/VarHandle" ∧ (parseMethodDescriptor y_T_find.desc).map (fun d => d.parameters.length) = some 1 := by decide +kernel
theorem dd_T_rootOf : y_T_rootOf.cls ≠ "java/lang/invoke/MethodHandle" ∧ y_T_rootOf.cls ≠ "java/lang/invoke/VarHandle" ∧ (parseMethodDescriptor y_T_rootOf.desc).map (fun d => d.parameters.length) = some 1 := by decide +kernel
theorem dd_T_include : y_T_include.cls ≠ "java/lang/invoke/MethodHandle" ∧ y_T_include.cls ≠ "java/lang/invoke/VarHandle" ∧ (parseMethodDescriptor y_T_include.desc).map (fun d => d.parameters.length) = some 2 := by decide +kernel
theorem dd_T_extend : y_T_extend.cls ≠ "java/lang/invoke/MethodHandle" ∧ y_T_extend.cls ≠ "java/lang/invoke/VarHandle" ∧ (parseMethodDescriptor y_T_extend.desc).map (fun d => d.parameters.length) = some 2 := by decide +kernel
theorem dd_T_proof : y_T_proof.cls ≠ "java/lang/invoke/MethodHandle" ∧ y_T_proof.cls ≠ "java/lang/invoke/VarHandle" ∧ (parseMethodDescriptor y_T_proof.desc).map (fun d => d.parameters.length) = some 1 := by decide +kernel
theorem dd_T_offer : y_T_offer.cls ≠ "java/lang/invoke/MethodHandle" ∧ y_T_offer.cls ≠ "java/lang/invoke/VarHandle" ∧ (parseMethodDescriptor y_T_offer.desc).map (fun d => d.parameters.length) = some 2 := by decide +kernel
theorem dd_T_offers : y_T_offers.cls ≠ "java/lang/invoke/MethodHandle" ∧ y_T_offers.cls ≠ "java/lang/invoke/VarHandle" ∧ (parseMethodDescriptor y_T_offers.desc).map (fun d => d.parameters.length) = some 1 := by decide +kernel
theorem dd_T_shows : y_T_shows.cls ≠ "java/lang/invoke/MethodHandle" ∧ y_T_shows.cls ≠ "java/lang/invoke/VarHandle" ∧ (parseMethodDescriptor y_T_shows.desc).map (fun d => d.parameters.length) = some 4 := by decide +kernel
theorem dd_T_leads : y_T_leads.cls ≠ "java/lang/invoke/MethodHandle" ∧ y_T_leads.cls ≠ "java/lang/invoke/VarHandle" ∧ (parseMethodDescriptor y_T_leads.desc).map (fun d => d.parameters.length) = some 4 := by decide +kernel
theorem dd_T_leadsBehind : y_T_leadsBehind.cls ≠ "java/lang/invoke/MethodHandle" ∧ y_T_leadsBehind.cls ≠ "java/lang/invoke/VarHandle" ∧ (parseMethodDescriptor y_T_leadsBehind.desc).map (fun d => d.parameters.length) = some 5 := by decide +kernel
theorem dd_T_standsLeft : y_T_standsLeft.cls ≠ "java/lang/invoke/MethodHandle" ∧ y_T_standsLeft.cls ≠ "java/lang/invoke/VarHandle" ∧ (parseMethodDescriptor y_T_standsLeft.desc).map (fun d => d.parameters.length) = some 2 := by decide +kernel
theorem dd_T_levelsClimbed : y_T_levelsClimbed.cls ≠ "java/lang/invoke/MethodHandle" ∧ y_T_levelsClimbed.cls ≠ "java/lang/invoke/VarHandle" ∧ (parseMethodDescriptor y_T_levelsClimbed.desc).map (fun d => d.parameters.length) = some 2 := by decide +kernel
theorem dd_T_zerosAtEnd : y_T_zerosAtEnd.cls ≠ "java/lang/invoke/MethodHandle" ∧ y_T_zerosAtEnd.cls ≠ "java/lang/invoke/VarHandle" ∧ (parseMethodDescriptor y_T_zerosAtEnd.desc).map (fun d => d.parameters.length) = some 1 := by decide +kernel
theorem dd_T_isPowerOfTwo : y_T_isPowerOfTwo.cls ≠ "java/lang/invoke/MethodHandle" ∧ y_T_isPowerOfTwo.cls ≠ "java/lang/invoke/VarHandle" ∧ (parseMethodDescriptor y_T_isPowerOfTwo.desc).map (fun d => d.parameters.length) = some 1 := by decide +kernel
theorem dd_T_addPath : y_T_addPath.cls ≠ "java/lang/invoke/MethodHandle" ∧ y_T_addPath.cls ≠ "java/lang/invoke/VarHandle" ∧ (parseMethodDescriptor y_T_addPath.desc).map (fun d => d.parameters.length) = some 3 := by decide +kernel
theorem dd_T_addBridge : y_T_addBridge.cls ≠ "java/lang/invoke/MethodHandle" ∧ y_T_addBridge.cls ≠ "java/lang/invoke/VarHandle" ∧ (parseMethodDescriptor y_T_addBridge.desc).map (fun d => d.parameters.length) = some 4 := by decide +kernel
theorem dd_T_addToProof : y_T_addToProof.cls ≠ "java/lang/invoke/MethodHandle" ∧ y_T_addToProof.cls ≠ "java/lang/invoke/VarHandle" ∧ (parseMethodDescriptor y_T_addToProof.desc).map (fun d => d.parameters.length) = some 2 := by decide +kernel
theorem dd_M_init : y_M_init.cls ≠ "java/lang/invoke/MethodHandle" ∧ y_M_init.cls ≠ "java/lang/invoke/VarHandle" ∧ (parseMethodDescriptor y_M_init.desc).map (fun d => d.parameters.length) = some 0 := by decide +kernel
theorem dd_M_mix : y_M_mix.cls ≠ "java/lang/invoke/MethodHandle" ∧ y_M_mix.cls ≠ "java/lang/invoke/VarHandle" ∧ (parseMethodDescriptor y_M_mix.desc).map (fun d => d.parameters.length) = some 2 := by decide +kernel
theorem dd_M_leaf : y_M_leaf.cls ≠ "java/lang/invoke/MethodHandle" ∧ y_M_leaf.cls ≠ "java/lang/invoke/VarHandle" ∧ (parseMethodDescriptor y_M_leaf.desc).map (fun d => d.parameters.length) = some 1 := by decide +kernel
theorem dd_M_node : y_M_node.cls ≠ "java/lang/invoke/MethodHandle" ∧ y_M_node.cls ≠ "java/lang/invoke/VarHandle" ∧ (parseMethodDescriptor y_M_node.desc).map (fun d => d.parameters.length) = some 2 := by decide +kernel
theorem dd_M_rootAt : y_M_rootAt.cls ≠ "java/lang/invoke/MethodHandle" ∧ y_M_rootAt.cls ≠ "java/lang/invoke/VarHandle" ∧ (parseMethodDescriptor y_M_rootAt.desc).map (fun d => d.parameters.length) = some 2 := by decide +kernel
theorem dd_M_half : y_M_half.cls ≠ "java/lang/invoke/MethodHandle" ∧ y_M_half.cls ≠ "java/lang/invoke/VarHandle" ∧ (parseMethodDescriptor y_M_half.desc).map (fun d => d.parameters.length) = some 1 := by decide +kernel
theorem dd_M_write : y_M_write.cls ≠ "java/lang/invoke/MethodHandle" ∧ y_M_write.cls ≠ "java/lang/invoke/VarHandle" ∧ (parseMethodDescriptor y_M_write.desc).map (fun d => d.parameters.length) = some 0 := by decide +kernel
theorem dd_M_rightAt : y_M_rightAt.cls ≠ "java/lang/invoke/MethodHandle" ∧ y_M_rightAt.cls ≠ "java/lang/invoke/VarHandle" ∧ (parseMethodDescriptor y_M_rightAt.desc).map (fun d => d.parameters.length) = some 3 := by decide +kernel
theorem dd_M_putRight : y_M_putRight.cls ≠ "java/lang/invoke/MethodHandle" ∧ y_M_putRight.cls ≠ "java/lang/invoke/VarHandle" ∧ (parseMethodDescriptor y_M_putRight.desc).map (fun d => d.parameters.length) = some 1 := by decide +kernel
theorem dd_M_latestPlace : y_M_latestPlace.cls ≠ "java/lang/invoke/MethodHandle" ∧ y_M_latestPlace.cls ≠ "java/lang/invoke/VarHandle" ∧ (parseMethodDescriptor y_M_latestPlace.desc).map (fun d => d.parameters.length) = some 0 := by decide +kernel
theorem dd_M_latestNumber : y_M_latestNumber.cls ≠ "java/lang/invoke/MethodHandle" ∧ y_M_latestNumber.cls ≠ "java/lang/invoke/VarHandle" ∧ (parseMethodDescriptor y_M_latestNumber.desc).map (fun d => d.parameters.length) = some 0 := by decide +kernel
theorem dd_M_published : y_M_published.cls ≠ "java/lang/invoke/MethodHandle" ∧ y_M_published.cls ≠ "java/lang/invoke/VarHandle" ∧ (parseMethodDescriptor y_M_published.desc).map (fun d => d.parameters.length) = some 0 := by decide +kernel
theorem dd_M_append : y_M_append.cls ≠ "java/lang/invoke/MethodHandle" ∧ y_M_append.cls ≠ "java/lang/invoke/VarHandle" ∧ (parseMethodDescriptor y_M_append.desc).map (fun d => d.parameters.length) = some 1 := by decide +kernel
theorem dd_M_publish : y_M_publish.cls ≠ "java/lang/invoke/MethodHandle" ∧ y_M_publish.cls ≠ "java/lang/invoke/VarHandle" ∧ (parseMethodDescriptor y_M_publish.desc).map (fun d => d.parameters.length) = some 0 := by decide +kernel
theorem dd_M_order : y_M_order.cls ≠ "java/lang/invoke/MethodHandle" ∧ y_M_order.cls ≠ "java/lang/invoke/VarHandle" ∧ (parseMethodDescriptor y_M_order.desc).map (fun d => d.parameters.length) = some 1 := by decide +kernel
theorem dd_M_recover : y_M_recover.cls ≠ "java/lang/invoke/MethodHandle" ∧ y_M_recover.cls ≠ "java/lang/invoke/VarHandle" ∧ (parseMethodDescriptor y_M_recover.desc).map (fun d => d.parameters.length) = some 0 := by decide +kernel
theorem dd_M_writes : y_M_writes.cls ≠ "java/lang/invoke/MethodHandle" ∧ y_M_writes.cls ≠ "java/lang/invoke/VarHandle" ∧ (parseMethodDescriptor y_M_writes.desc).map (fun d => d.parameters.length) = some 0 := by decide +kernel
theorem dd_M_length : y_M_length.cls ≠ "java/lang/invoke/MethodHandle" ∧ y_M_length.cls ≠ "java/lang/invoke/VarHandle" ∧ (parseMethodDescriptor y_M_length.desc).map (fun d => d.parameters.length) = some 0 := by decide +kernel
theorem dd_M_isHead : y_M_isHead.cls ≠ "java/lang/invoke/MethodHandle" ∧ y_M_isHead.cls ≠ "java/lang/invoke/VarHandle" ∧ (parseMethodDescriptor y_M_isHead.desc).map (fun d => d.parameters.length) = some 1 := by decide +kernel
theorem dd_M_size : y_M_size.cls ≠ "java/lang/invoke/MethodHandle" ∧ y_M_size.cls ≠ "java/lang/invoke/VarHandle" ∧ (parseMethodDescriptor y_M_size.desc).map (fun d => d.parameters.length) = some 1 := by decide +kernel
theorem dd_M_root : y_M_root.cls ≠ "java/lang/invoke/MethodHandle" ∧ y_M_root.cls ≠ "java/lang/invoke/VarHandle" ∧ (parseMethodDescriptor y_M_root.desc).map (fun d => d.parameters.length) = some 1 := by decide +kernel
theorem dd_M_latest : y_M_latest.cls ≠ "java/lang/invoke/MethodHandle" ∧ y_M_latest.cls ≠ "java/lang/invoke/VarHandle" ∧ (parseMethodDescriptor y_M_latest.desc).map (fun d => d.parameters.length) = some 0 := by decide +kernel
theorem dd_M_tile : y_M_tile.cls ≠ "java/lang/invoke/MethodHandle" ∧ y_M_tile.cls ≠ "java/lang/invoke/VarHandle" ∧ (parseMethodDescriptor y_M_tile.desc).map (fun d => d.parameters.length) = some 3 := by decide +kernel
theorem dd_M_entry : y_M_entry.cls ≠ "java/lang/invoke/MethodHandle" ∧ y_M_entry.cls ≠ "java/lang/invoke/VarHandle" ∧ (parseMethodDescriptor y_M_entry.desc).map (fun d => d.parameters.length) = some 1 := by decide +kernel
theorem dd_M_find : y_M_find.cls ≠ "java/lang/invoke/MethodHandle" ∧ y_M_find.cls ≠ "java/lang/invoke/VarHandle" ∧ (parseMethodDescriptor y_M_find.desc).map (fun d => d.parameters.length) = some 1 := by decide +kernel
theorem dd_M_rootOf : y_M_rootOf.cls ≠ "java/lang/invoke/MethodHandle" ∧ y_M_rootOf.cls ≠ "java/lang/invoke/VarHandle" ∧ (parseMethodDescriptor y_M_rootOf.desc).map (fun d => d.parameters.length) = some 1 := by decide +kernel
theorem dd_M_turn : y_M_turn.cls ≠ "java/lang/invoke/MethodHandle" ∧ y_M_turn.cls ≠ "java/lang/invoke/VarHandle" ∧ (parseMethodDescriptor y_M_turn.desc).map (fun d => d.parameters.length) = some 0 := by decide +kernel
theorem dd_M_say : y_M_say.cls ≠ "java/lang/invoke/MethodHandle" ∧ y_M_say.cls ≠ "java/lang/invoke/VarHandle" ∧ (parseMethodDescriptor y_M_say.desc).map (fun d => d.parameters.length) = some 1 := by decide +kernel
theorem dd_M_include : y_M_include.cls ≠ "java/lang/invoke/MethodHandle" ∧ y_M_include.cls ≠ "java/lang/invoke/VarHandle" ∧ (parseMethodDescriptor y_M_include.desc).map (fun d => d.parameters.length) = some 2 := by decide +kernel
theorem dd_M_extend : y_M_extend.cls ≠ "java/lang/invoke/MethodHandle" ∧ y_M_extend.cls ≠ "java/lang/invoke/VarHandle" ∧ (parseMethodDescriptor y_M_extend.desc).map (fun d => d.parameters.length) = some 2 := by decide +kernel
theorem dd_M_proof : y_M_proof.cls ≠ "java/lang/invoke/MethodHandle" ∧ y_M_proof.cls ≠ "java/lang/invoke/VarHandle" ∧ (parseMethodDescriptor y_M_proof.desc).map (fun d => d.parameters.length) = some 1 := by decide +kernel
theorem dd_M_offer : y_M_offer.cls ≠ "java/lang/invoke/MethodHandle" ∧ y_M_offer.cls ≠ "java/lang/invoke/VarHandle" ∧ (parseMethodDescriptor y_M_offer.desc).map (fun d => d.parameters.length) = some 2 := by decide +kernel
theorem dd_M_offers : y_M_offers.cls ≠ "java/lang/invoke/MethodHandle" ∧ y_M_offers.cls ≠ "java/lang/invoke/VarHandle" ∧ (parseMethodDescriptor y_M_offers.desc).map (fun d => d.parameters.length) = some 1 := by decide +kernel
theorem dd_M_halvings : y_M_halvings.cls ≠ "java/lang/invoke/MethodHandle" ∧ y_M_halvings.cls ≠ "java/lang/invoke/VarHandle" ∧ (parseMethodDescriptor y_M_halvings.desc).map (fun d => d.parameters.length) = some 1 := by decide +kernel
theorem dd_M_shows : y_M_shows.cls ≠ "java/lang/invoke/MethodHandle" ∧ y_M_shows.cls ≠ "java/lang/invoke/VarHandle" ∧ (parseMethodDescriptor y_M_shows.desc).map (fun d => d.parameters.length) = some 4 := by decide +kernel
theorem dd_M_buildRow : y_M_buildRow.cls ≠ "java/lang/invoke/MethodHandle" ∧ y_M_buildRow.cls ≠ "java/lang/invoke/VarHandle" ∧ (parseMethodDescriptor y_M_buildRow.desc).map (fun d => d.parameters.length) = some 2 := by decide +kernel
theorem dd_M_leads : y_M_leads.cls ≠ "java/lang/invoke/MethodHandle" ∧ y_M_leads.cls ≠ "java/lang/invoke/VarHandle" ∧ (parseMethodDescriptor y_M_leads.desc).map (fun d => d.parameters.length) = some 4 := by decide +kernel
theorem dd_D_init : y_D_init.cls ≠ "java/lang/invoke/MethodHandle" ∧ y_D_init.cls ≠ "java/lang/invoke/VarHandle" ∧ (parseMethodDescriptor y_D_init.desc).map (fun d => d.parameters.length) = some 0 := by decide +kernel
theorem dd_D_hasHead : y_D_hasHead.cls ≠ "java/lang/invoke/MethodHandle" ∧ y_D_hasHead.cls ≠ "java/lang/invoke/VarHandle" ∧ (parseMethodDescriptor y_D_hasHead.desc).map (fun d => d.parameters.length) = some 1 := by decide +kernel
theorem dd_D_latestPlace : y_D_latestPlace.cls ≠ "java/lang/invoke/MethodHandle" ∧ y_D_latestPlace.cls ≠ "java/lang/invoke/VarHandle" ∧ (parseMethodDescriptor y_D_latestPlace.desc).map (fun d => d.parameters.length) = some 0 := by decide +kernel
theorem dd_D_latestNumber : y_D_latestNumber.cls ≠ "java/lang/invoke/MethodHandle" ∧ y_D_latestNumber.cls ≠ "java/lang/invoke/VarHandle" ∧ (parseMethodDescriptor y_D_latestNumber.desc).map (fun d => d.parameters.length) = some 0 := by decide +kernel
theorem dd_D_publishedSize : y_D_publishedSize.cls ≠ "java/lang/invoke/MethodHandle" ∧ y_D_publishedSize.cls ≠ "java/lang/invoke/VarHandle" ∧ (parseMethodDescriptor y_D_publishedSize.desc).map (fun d => d.parameters.length) = some 0 := by decide +kernel
theorem dd_D_beginWrite : y_D_beginWrite.cls ≠ "java/lang/invoke/MethodHandle" ∧ y_D_beginWrite.cls ≠ "java/lang/invoke/VarHandle" ∧ (parseMethodDescriptor y_D_beginWrite.desc).map (fun d => d.parameters.length) = some 0 := by decide +kernel
theorem dd_D_writeEntry : y_D_writeEntry.cls ≠ "java/lang/invoke/MethodHandle" ∧ y_D_writeEntry.cls ≠ "java/lang/invoke/VarHandle" ∧ (parseMethodDescriptor y_D_writeEntry.desc).map (fun d => d.parameters.length) = some 2 := by decide +kernel
theorem dd_D_writeHead : y_D_writeHead.cls ≠ "java/lang/invoke/MethodHandle" ∧ y_D_writeHead.cls ≠ "java/lang/invoke/VarHandle" ∧ (parseMethodDescriptor y_D_writeHead.desc).map (fun d => d.parameters.length) = some 3 := by decide +kernel
theorem dd_D_writeTilesFor : y_D_writeTilesFor.cls ≠ "java/lang/invoke/MethodHandle" ∧ y_D_writeTilesFor.cls ≠ "java/lang/invoke/VarHandle" ∧ (parseMethodDescriptor y_D_writeTilesFor.desc).map (fun d => d.parameters.length) = some 1 := by decide +kernel
theorem dd_D_isRight : y_D_isRight.cls ≠ "java/lang/invoke/MethodHandle" ∧ y_D_isRight.cls ≠ "java/lang/invoke/VarHandle" ∧ (parseMethodDescriptor y_D_isRight.desc).map (fun d => d.parameters.length) = some 2 := by decide +kernel
theorem dd_D_leafBelow : y_D_leafBelow.cls ≠ "java/lang/invoke/MethodHandle" ∧ y_D_leafBelow.cls ≠ "java/lang/invoke/VarHandle" ∧ (parseMethodDescriptor y_D_leafBelow.desc).map (fun d => d.parameters.length) = some 2 := by decide +kernel
theorem dd_D_groupBelow : y_D_groupBelow.cls ≠ "java/lang/invoke/MethodHandle" ∧ y_D_groupBelow.cls ≠ "java/lang/invoke/VarHandle" ∧ (parseMethodDescriptor y_D_groupBelow.desc).map (fun d => d.parameters.length) = some 2 := by decide +kernel
theorem dd_D_writeTile : y_D_writeTile.cls ≠ "java/lang/invoke/MethodHandle" ∧ y_D_writeTile.cls ≠ "java/lang/invoke/VarHandle" ∧ (parseMethodDescriptor y_D_writeTile.desc).map (fun d => d.parameters.length) = some 1 := by decide +kernel
theorem dd_H_mix : y_H_mix.cls ≠ "java/lang/invoke/MethodHandle" ∧ y_H_mix.cls ≠ "java/lang/invoke/VarHandle" ∧ (parseMethodDescriptor y_H_mix.desc).map (fun d => d.parameters.length) = some 2 := by decide +kernel
theorem dd_H_ofLeaf : y_H_ofLeaf.cls ≠ "java/lang/invoke/MethodHandle" ∧ y_H_ofLeaf.cls ≠ "java/lang/invoke/VarHandle" ∧ (parseMethodDescriptor y_H_ofLeaf.desc).map (fun d => d.parameters.length) = some 1 := by decide +kernel
theorem dd_H_ofNode : y_H_ofNode.cls ≠ "java/lang/invoke/MethodHandle" ∧ y_H_ofNode.cls ≠ "java/lang/invoke/VarHandle" ∧ (parseMethodDescriptor y_H_ofNode.desc).map (fun d => d.parameters.length) = some 2 := by decide +kernel
theorem dd_H_half : y_H_half.cls ≠ "java/lang/invoke/MethodHandle" ∧ y_H_half.cls ≠ "java/lang/invoke/VarHandle" ∧ (parseMethodDescriptor y_H_half.desc).map (fun d => d.parameters.length) = some 1 := by decide +kernel
theorem dd_H_ofRow : y_H_ofRow.cls ≠ "java/lang/invoke/MethodHandle" ∧ y_H_ofRow.cls ≠ "java/lang/invoke/VarHandle" ∧ (parseMethodDescriptor y_H_ofRow.desc).map (fun d => d.parameters.length) = some 3 := by decide +kernel

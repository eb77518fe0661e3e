/-! decode rows of the law -/
theorem dL_law_870 : decode code 870 = .ok (.invokevirtual 120, 3) := by decide +kernel
theorem dL_law_873 : decode code 873 = .ok (.if_icmp .eq 622, 3) := by decide +kernel
theorem dL_law_878 : decode code 878 = .ok (.aload_n 1, 1) := by decide +kernel
theorem dL_law_879 : decode code 879 = .ok (.aload_n 0, 1) := by decide +kernel
theorem dL_law_880 : decode code 880 = .ok (.iload_n 3, 1) := by decide +kernel
theorem dL_law_881 : decode code 881 = .ok (.iconst 1, 1) := by decide +kernel
theorem dL_law_882 : decode code 882 = .ok (.iadd, 1) := by decide +kernel
theorem dL_law_883 : decode code 883 = .ok (.iaload, 1) := by decide +kernel
theorem dL_law_884 : decode code 884 = .ok (.aload_n 0, 1) := by decide +kernel
theorem dL_law_885 : decode code 885 = .ok (.iload_n 3, 1) := by decide +kernel
theorem dL_law_886 : decode code 886 = .ok (.iconst 2, 1) := by decide +kernel
theorem dL_law_887 : decode code 887 = .ok (.iadd, 1) := by decide +kernel
theorem dL_law_888 : decode code 888 = .ok (.iaload, 1) := by decide +kernel
theorem dL_law_889 : decode code 889 = .ok (.invokevirtual 121, 3) := by decide +kernel
theorem dL_law_892 : decode code 892 = .ok (.aload_n 2, 1) := by decide +kernel
theorem dL_law_893 : decode code 893 = .ok (.aload_n 0, 1) := by decide +kernel
theorem dL_law_894 : decode code 894 = .ok (.iload_n 3, 1) := by decide +kernel
theorem dL_law_895 : decode code 895 = .ok (.iconst 1, 1) := by decide +kernel
theorem dL_law_896 : decode code 896 = .ok (.iadd, 1) := by decide +kernel
theorem dL_law_897 : decode code 897 = .ok (.iaload, 1) := by decide +kernel
theorem dL_law_898 : decode code 898 = .ok (.aload_n 0, 1) := by decide +kernel
theorem dL_law_899 : decode code 899 = .ok (.iload_n 3, 1) := by decide +kernel
theorem dL_law_900 : decode code 900 = .ok (.iconst 2, 1) := by decide +kernel
theorem dL_law_901 : decode code 901 = .ok (.iadd, 1) := by decide +kernel
theorem dL_law_902 : decode code 902 = .ok (.iaload, 1) := by decide +kernel
theorem dL_law_903 : decode code 903 = .ok (.invokevirtual 124, 3) := by decide +kernel
theorem dL_law_906 : decode code 906 = .ok (.if_icmp .eq 589, 3) := by decide +kernel
theorem dL_law_911 : decode code 911 = .ok (.aload_n 1, 1) := by decide +kernel
theorem dL_law_912 : decode code 912 = .ok (.aload_n 0, 1) := by decide +kernel
theorem dL_law_913 : decode code 913 = .ok (.iload_n 3, 1) := by decide +kernel
theorem dL_law_914 : decode code 914 = .ok (.iconst 1, 1) := by decide +kernel
theorem dL_law_915 : decode code 915 = .ok (.iadd, 1) := by decide +kernel
theorem dL_law_916 : decode code 916 = .ok (.iaload, 1) := by decide +kernel
theorem dL_law_917 : decode code 917 = .ok (.aload_n 0, 1) := by decide +kernel
theorem dL_law_918 : decode code 918 = .ok (.iload_n 3, 1) := by decide +kernel
theorem dL_law_919 : decode code 919 = .ok (.iconst 2, 1) := by decide +kernel
theorem dL_law_920 : decode code 920 = .ok (.iadd, 1) := by decide +kernel
theorem dL_law_921 : decode code 921 = .ok (.iaload, 1) := by decide +kernel
theorem dL_law_922 : decode code 922 = .ok (.invokevirtual 125, 3) := by decide +kernel
theorem dL_law_925 : decode code 925 = .ok (.aload_n 2, 1) := by decide +kernel
theorem dL_law_926 : decode code 926 = .ok (.aload_n 0, 1) := by decide +kernel
theorem dL_law_927 : decode code 927 = .ok (.iload_n 3, 1) := by decide +kernel
theorem dL_law_928 : decode code 928 = .ok (.iconst 1, 1) := by decide +kernel
theorem dL_law_929 : decode code 929 = .ok (.iadd, 1) := by decide +kernel
theorem dL_law_930 : decode code 930 = .ok (.iaload, 1) := by decide +kernel
theorem dL_law_931 : decode code 931 = .ok (.aload_n 0, 1) := by decide +kernel
theorem dL_law_932 : decode code 932 = .ok (.iload_n 3, 1) := by decide +kernel
theorem dL_law_933 : decode code 933 = .ok (.iconst 2, 1) := by decide +kernel
theorem dL_law_934 : decode code 934 = .ok (.iadd, 1) := by decide +kernel
theorem dL_law_935 : decode code 935 = .ok (.iaload, 1) := by decide +kernel
theorem dL_law_936 : decode code 936 = .ok (.invokevirtual 128, 3) := by decide +kernel
theorem dL_law_939 : decode code 939 = .ok (.if_icmp .eq 556, 3) := by decide +kernel
theorem dL_law_944 : decode code 944 = .ok (.aload_n 1, 1) := by decide +kernel
theorem dL_law_945 : decode code 945 = .ok (.aload_n 0, 1) := by decide +kernel
theorem dL_law_946 : decode code 946 = .ok (.iload_n 3, 1) := by decide +kernel
theorem dL_law_947 : decode code 947 = .ok (.iconst 1, 1) := by decide +kernel
theorem dL_law_948 : decode code 948 = .ok (.iadd, 1) := by decide +kernel
theorem dL_law_949 : decode code 949 = .ok (.iaload, 1) := by decide +kernel
theorem dL_law_950 : decode code 950 = .ok (.aload_n 0, 1) := by decide +kernel
theorem dL_law_951 : decode code 951 = .ok (.iload_n 3, 1) := by decide +kernel
theorem dL_law_952 : decode code 952 = .ok (.iconst 2, 1) := by decide +kernel
theorem dL_law_953 : decode code 953 = .ok (.iadd, 1) := by decide +kernel
theorem dL_law_954 : decode code 954 = .ok (.iaload, 1) := by decide +kernel
theorem dL_law_955 : decode code 955 = .ok (.invokevirtual 129, 3) := by decide +kernel
theorem dL_law_958 : decode code 958 = .ok (.aload_n 2, 1) := by decide +kernel
theorem dL_law_959 : decode code 959 = .ok (.aload_n 0, 1) := by decide +kernel
theorem dL_law_960 : decode code 960 = .ok (.iload_n 3, 1) := by decide +kernel
theorem dL_law_961 : decode code 961 = .ok (.iconst 1, 1) := by decide +kernel
theorem dL_law_962 : decode code 962 = .ok (.iadd, 1) := by decide +kernel
theorem dL_law_963 : decode code 963 = .ok (.iaload, 1) := by decide +kernel
theorem dL_law_964 : decode code 964 = .ok (.aload_n 0, 1) := by decide +kernel
theorem dL_law_965 : decode code 965 = .ok (.iload_n 3, 1) := by decide +kernel
theorem dL_law_966 : decode code 966 = .ok (.iconst 2, 1) := by decide +kernel
theorem dL_law_967 : decode code 967 = .ok (.iadd, 1) := by decide +kernel
theorem dL_law_968 : decode code 968 = .ok (.iaload, 1) := by decide +kernel
